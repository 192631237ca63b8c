section
-- ===== PART A: goes FIRST, ahead of the names: the tables' words, and 'selects' of the private methods out of them =====
/-- a private method of a class that the tables say can be made, by its rows of tables_1 -/
def lw_okq (q : MethodName × Nat) : Prop := (q.1.cls ≠ "java/lang/invoke/MethodHandle" ∧ q.1.cls ≠ "java/lang/invoke/VarHandle") ∧ Cond.instantiable q.1.cls q.2 ∈ tables_1 ∧ Cond.privateMethod q.1 ∈ tables_1 ∧ Cond.instanceMethod q.1 ∈ tables_1
theorem lw_p0 : lw_okq (⟨"HoneyHouse", "lotAt", "(I)LHoneyHouse$Lot;"⟩, 15) := ⟨⟨by decide +kernel, by decide +kernel⟩, List.mem_of_getElem? (i := 20) (by decide +kernel), List.mem_of_getElem? (i := 340) (by decide +kernel), List.mem_of_getElem? (i := 341) (by decide +kernel)⟩
theorem lw_p1 : lw_okq (⟨"HoneyHouse", "tankAt", "(I)LHoneyHouse$Vessel;"⟩, 15) := ⟨⟨by decide +kernel, by decide +kernel⟩, List.mem_of_getElem? (i := 20) (by decide +kernel), List.mem_of_getElem? (i := 365) (by decide +kernel), List.mem_of_getElem? (i := 366) (by decide +kernel)⟩
theorem lw_p2 : lw_okq (⟨"HoneyHouse$Draught", "shareOut", "(LHoneyHouse$Vessel;I)V"⟩, 2) := ⟨⟨by decide +kernel, by decide +kernel⟩, List.mem_of_getElem? (i := 112) (by decide +kernel), List.mem_of_getElem? (i := 390) (by decide +kernel), List.mem_of_getElem? (i := 391) (by decide +kernel)⟩
theorem lw_p3 : lw_okq (⟨"HoneyHouse$Draught", "greatestRest", "()I"⟩, 2) := ⟨⟨by decide +kernel, by decide +kernel⟩, List.mem_of_getElem? (i := 112) (by decide +kernel), List.mem_of_getElem? (i := 399) (by decide +kernel), List.mem_of_getElem? (i := 400) (by decide +kernel)⟩
theorem lw_p4 : lw_okq (⟨"HoneyHouse", "vesselAt", "(II)LHoneyHouse$Vessel;"⟩, 15) := ⟨⟨by decide +kernel, by decide +kernel⟩, List.mem_of_getElem? (i := 20) (by decide +kernel), List.mem_of_getElem? (i := 428) (by decide +kernel), List.mem_of_getElem? (i := 429) (by decide +kernel)⟩
theorem lw_p5 : lw_okq (⟨"HoneyHouse", "told", "(LHoneyHouse$Vessel;I)I"⟩, 15) := ⟨⟨by decide +kernel, by decide +kernel⟩, List.mem_of_getElem? (i := 20) (by decide +kernel), List.mem_of_getElem? (i := 454) (by decide +kernel), List.mem_of_getElem? (i := 455) (by decide +kernel)⟩
theorem lw_p6 : lw_okq (⟨"HoneyHouse", "weighed", "(LHoneyHouse$Vessel;I)J"⟩, 15) := ⟨⟨by decide +kernel, by decide +kernel⟩, List.mem_of_getElem? (i := 20) (by decide +kernel), List.mem_of_getElem? (i := 459) (by decide +kernel), List.mem_of_getElem? (i := 460) (by decide +kernel)⟩
theorem lw_p7 : lw_okq (⟨"HoneyHouse$Tape", "byteAt", "(I)I"⟩, 5) := ⟨⟨by decide +kernel, by decide +kernel⟩, List.mem_of_getElem? (i := 56) (by decide +kernel), List.mem_of_getElem? (i := 485) (by decide +kernel), List.mem_of_getElem? (i := 486) (by decide +kernel)⟩
theorem lw_p8 : lw_okq (⟨"HoneyHouse$RuleReader", "readName", "()Z"⟩, 8) := ⟨⟨by decide +kernel, by decide +kernel⟩, List.mem_of_getElem? (i := 50) (by decide +kernel), List.mem_of_getElem? (i := 492) (by decide +kernel), List.mem_of_getElem? (i := 493) (by decide +kernel)⟩
theorem lw_p9 : lw_okq (⟨"HoneyHouse$RuleReader", "isKeptWord", "()Z"⟩, 8) := ⟨⟨by decide +kernel, by decide +kernel⟩, List.mem_of_getElem? (i := 50) (by decide +kernel), List.mem_of_getElem? (i := 496) (by decide +kernel), List.mem_of_getElem? (i := 497) (by decide +kernel)⟩
theorem lw_p10 : lw_okq (⟨"HoneyHouse$RuleReader", "measureNamed", "()I"⟩, 8) := ⟨⟨by decide +kernel, by decide +kernel⟩, List.mem_of_getElem? (i := 50) (by decide +kernel), List.mem_of_getElem? (i := 558) (by decide +kernel), List.mem_of_getElem? (i := 559) (by decide +kernel)⟩
theorem lw_p11 : lw_okq (⟨"HoneyHouse$RuleReader", "failHere", "()Z"⟩, 8) := ⟨⟨by decide +kernel, by decide +kernel⟩, List.mem_of_getElem? (i := 50) (by decide +kernel), List.mem_of_getElem? (i := 567) (by decide +kernel), List.mem_of_getElem? (i := 568) (by decide +kernel)⟩
theorem lw_p12 : lw_okq (⟨"HoneyHouse$RuleReader", "failAt", "(II)Z"⟩, 8) := ⟨⟨by decide +kernel, by decide +kernel⟩, List.mem_of_getElem? (i := 50) (by decide +kernel), List.mem_of_getElem? (i := 571) (by decide +kernel), List.mem_of_getElem? (i := 572) (by decide +kernel)⟩
theorem lw_p13 : lw_okq (⟨"HoneyHouse$RuleReader", "readByte", "(C)Z"⟩, 8) := ⟨⟨by decide +kernel, by decide +kernel⟩, List.mem_of_getElem? (i := 50) (by decide +kernel), List.mem_of_getElem? (i := 581) (by decide +kernel), List.mem_of_getElem? (i := 582) (by decide +kernel)⟩
theorem lw_p14 : lw_okq (⟨"HoneyHouse$RuleReader", "readEither", "(I)Z"⟩, 8) := ⟨⟨by decide +kernel, by decide +kernel⟩, List.mem_of_getElem? (i := 50) (by decide +kernel), List.mem_of_getElem? (i := 589) (by decide +kernel), List.mem_of_getElem? (i := 590) (by decide +kernel)⟩
theorem lw_p15 : lw_okq (⟨"HoneyHouse$RuleReader", "readOne", "(I)Z"⟩, 8) := ⟨⟨by decide +kernel, by decide +kernel⟩, List.mem_of_getElem? (i := 50) (by decide +kernel), List.mem_of_getElem? (i := 593) (by decide +kernel), List.mem_of_getElem? (i := 594) (by decide +kernel)⟩
def lw_privs_1 : List (MethodName × Nat) := [(⟨"HoneyHouse", "lotAt", "(I)LHoneyHouse$Lot;"⟩, 15), (⟨"HoneyHouse", "tankAt", "(I)LHoneyHouse$Vessel;"⟩, 15), (⟨"HoneyHouse$Draught", "shareOut", "(LHoneyHouse$Vessel;I)V"⟩, 2), (⟨"HoneyHouse$Draught", "greatestRest", "()I"⟩, 2), (⟨"HoneyHouse", "vesselAt", "(II)LHoneyHouse$Vessel;"⟩, 15), (⟨"HoneyHouse", "told", "(LHoneyHouse$Vessel;I)I"⟩, 15), (⟨"HoneyHouse", "weighed", "(LHoneyHouse$Vessel;I)J"⟩, 15), (⟨"HoneyHouse$Tape", "byteAt", "(I)I"⟩, 5), (⟨"HoneyHouse$RuleReader", "readName", "()Z"⟩, 8), (⟨"HoneyHouse$RuleReader", "isKeptWord", "()Z"⟩, 8), (⟨"HoneyHouse$RuleReader", "measureNamed", "()I"⟩, 8), (⟨"HoneyHouse$RuleReader", "failHere", "()Z"⟩, 8), (⟨"HoneyHouse$RuleReader", "failAt", "(II)Z"⟩, 8), (⟨"HoneyHouse$RuleReader", "readByte", "(C)Z"⟩, 8), (⟨"HoneyHouse$RuleReader", "readEither", "(I)Z"⟩, 8), (⟨"HoneyHouse$RuleReader", "readOne", "(I)Z"⟩, 8)]
theorem lw_r1 : ∀ q ∈ lw_privs_1, lw_okq q := List.forall_mem_cons.mpr ⟨lw_p0, List.forall_mem_cons.mpr ⟨lw_p1, List.forall_mem_cons.mpr ⟨lw_p2, List.forall_mem_cons.mpr ⟨lw_p3, List.forall_mem_cons.mpr ⟨lw_p4, List.forall_mem_cons.mpr ⟨lw_p5, List.forall_mem_cons.mpr ⟨lw_p6, List.forall_mem_cons.mpr ⟨lw_p7, List.forall_mem_cons.mpr ⟨lw_p8, List.forall_mem_cons.mpr ⟨lw_p9, List.forall_mem_cons.mpr ⟨lw_p10, List.forall_mem_cons.mpr ⟨lw_p11, List.forall_mem_cons.mpr ⟨lw_p12, List.forall_mem_cons.mpr ⟨lw_p13, List.forall_mem_cons.mpr ⟨lw_p14, List.forall_mem_cons.mpr ⟨lw_p15, fun _ h => absurd h List.not_mem_nil⟩⟩⟩⟩⟩⟩⟩⟩⟩⟩⟩⟩⟩⟩⟩⟩
theorem lw_p16 : lw_okq (⟨"HoneyHouse$RuleReader", "readTest", "()Z"⟩, 8) := ⟨⟨by decide +kernel, by decide +kernel⟩, List.mem_of_getElem? (i := 50) (by decide +kernel), List.mem_of_getElem? (i := 597) (by decide +kernel), List.mem_of_getElem? (i := 598) (by decide +kernel)⟩
theorem lw_p17 : lw_okq (⟨"HoneyHouse$RuleReader", "readNumber", "(I)Z"⟩, 8) := ⟨⟨by decide +kernel, by decide +kernel⟩, List.mem_of_getElem? (i := 50) (by decide +kernel), List.mem_of_getElem? (i := 601) (by decide +kernel), List.mem_of_getElem? (i := 602) (by decide +kernel)⟩
theorem lw_p18 : lw_okq (⟨"HoneyHouse$RuleReader", "addCode", "(I)V"⟩, 8) := ⟨⟨by decide +kernel, by decide +kernel⟩, List.mem_of_getElem? (i := 50) (by decide +kernel), List.mem_of_getElem? (i := 612) (by decide +kernel), List.mem_of_getElem? (i := 613) (by decide +kernel)⟩
theorem lw_p19 : lw_okq (⟨"HoneyHouse$RuleReader", "isAndOr", "()Z"⟩, 8) := ⟨⟨by decide +kernel, by decide +kernel⟩, List.mem_of_getElem? (i := 50) (by decide +kernel), List.mem_of_getElem? (i := 616) (by decide +kernel), List.mem_of_getElem? (i := 617) (by decide +kernel)⟩
theorem lw_p20 : lw_okq (⟨"HoneyHouse$RuleReader", "readWord", "(Ljava/lang/String;)Z"⟩, 8) := ⟨⟨by decide +kernel, by decide +kernel⟩, List.mem_of_getElem? (i := 50) (by decide +kernel), List.mem_of_getElem? (i := 620) (by decide +kernel), List.mem_of_getElem? (i := 621) (by decide +kernel)⟩
theorem lw_p21 : lw_okq (⟨"HoneyHouse", "ruleAt", "(I)LHoneyHouse$Rule;"⟩, 15) := ⟨⟨by decide +kernel, by decide +kernel⟩, List.mem_of_getElem? (i := 20) (by decide +kernel), List.mem_of_getElem? (i := 675) (by decide +kernel), List.mem_of_getElem? (i := 676) (by decide +kernel)⟩
theorem lw_p22 : lw_okq (⟨"HoneyHouse", "verdict", "(LHoneyHouse$Rule;LHoneyHouse$Vessel;)I"⟩, 15) := ⟨⟨by decide +kernel, by decide +kernel⟩, List.mem_of_getElem? (i := 20) (by decide +kernel), List.mem_of_getElem? (i := 683) (by decide +kernel), List.mem_of_getElem? (i := 684) (by decide +kernel)⟩
theorem lw_p23 : lw_okq (⟨"HoneyHouse", "verdictOfTest", "(ILHoneyHouse$Vessel;)I"⟩, 15) := ⟨⟨by decide +kernel, by decide +kernel⟩, List.mem_of_getElem? (i := 20) (by decide +kernel), List.mem_of_getElem? (i := 687) (by decide +kernel), List.mem_of_getElem? (i := 688) (by decide +kernel)⟩
theorem lw_p24 : lw_okq (⟨"HoneyHouse", "isInForce", "(LHoneyHouse$Rule;II)Z"⟩, 15) := ⟨⟨by decide +kernel, by decide +kernel⟩, List.mem_of_getElem? (i := 20) (by decide +kernel), List.mem_of_getElem? (i := 697) (by decide +kernel), List.mem_of_getElem? (i := 698) (by decide +kernel)⟩
theorem lw_p25 : lw_okq (⟨"HoneyHouse", "areTanksToBlend", "(I)Z"⟩, 15) := ⟨⟨by decide +kernel, by decide +kernel⟩, List.mem_of_getElem? (i := 20) (by decide +kernel), List.mem_of_getElem? (i := 715) (by decide +kernel), List.mem_of_getElem? (i := 716) (by decide +kernel)⟩
theorem lw_p26 : lw_okq (⟨"HoneyHouse$Blender", "tryWith", "(II)V"⟩, 14) := ⟨⟨by decide +kernel, by decide +kernel⟩, List.mem_of_getElem? (i := 126) (by decide +kernel), List.mem_of_getElem? (i := 742) (by decide +kernel), List.mem_of_getElem? (i := 743) (by decide +kernel)⟩
theorem lw_p27 : lw_okq (⟨"HoneyHouse$Blender", "isWithin", "(II)Z"⟩, 14) := ⟨⟨by decide +kernel, by decide +kernel⟩, List.mem_of_getElem? (i := 126) (by decide +kernel), List.mem_of_getElem? (i := 747) (by decide +kernel), List.mem_of_getElem? (i := 748) (by decide +kernel)⟩
theorem lw_p28 : lw_okq (⟨"HoneyHouse$Blender", "keepBest", "()V"⟩, 14) := ⟨⟨by decide +kernel, by decide +kernel⟩, List.mem_of_getElem? (i := 126) (by decide +kernel), List.mem_of_getElem? (i := 751) (by decide +kernel), List.mem_of_getElem? (i := 752) (by decide +kernel)⟩
theorem lw_p29 : lw_okq (⟨"HoneyHouse", "whereabouts", "(LHoneyHouse$Lot;II)I"⟩, 15) := ⟨⟨by decide +kernel, by decide +kernel⟩, List.mem_of_getElem? (i := 20) (by decide +kernel), List.mem_of_getElem? (i := 771) (by decide +kernel), List.mem_of_getElem? (i := 772) (by decide +kernel)⟩
theorem lw_p30 : lw_okq (⟨"HoneyHouseModel", "put", "(I)V"⟩, 44) := ⟨⟨by decide +kernel, by decide +kernel⟩, List.mem_of_getElem? (i := 782) (by decide +kernel), List.mem_of_getElem? (i := 925) (by decide +kernel), List.mem_of_getElem? (i := 926) (by decide +kernel)⟩
theorem lw_p31 : lw_okq (⟨"HoneyHouseModel", "pay", "(II)I"⟩, 44) := ⟨⟨by decide +kernel, by decide +kernel⟩, List.mem_of_getElem? (i := 782) (by decide +kernel), List.mem_of_getElem? (i := 945) (by decide +kernel), List.mem_of_getElem? (i := 946) (by decide +kernel)⟩
def lw_privs_2 : List (MethodName × Nat) := [(⟨"HoneyHouse$RuleReader", "readTest", "()Z"⟩, 8), (⟨"HoneyHouse$RuleReader", "readNumber", "(I)Z"⟩, 8), (⟨"HoneyHouse$RuleReader", "addCode", "(I)V"⟩, 8), (⟨"HoneyHouse$RuleReader", "isAndOr", "()Z"⟩, 8), (⟨"HoneyHouse$RuleReader", "readWord", "(Ljava/lang/String;)Z"⟩, 8), (⟨"HoneyHouse", "ruleAt", "(I)LHoneyHouse$Rule;"⟩, 15), (⟨"HoneyHouse", "verdict", "(LHoneyHouse$Rule;LHoneyHouse$Vessel;)I"⟩, 15), (⟨"HoneyHouse", "verdictOfTest", "(ILHoneyHouse$Vessel;)I"⟩, 15), (⟨"HoneyHouse", "isInForce", "(LHoneyHouse$Rule;II)Z"⟩, 15), (⟨"HoneyHouse", "areTanksToBlend", "(I)Z"⟩, 15), (⟨"HoneyHouse$Blender", "tryWith", "(II)V"⟩, 14), (⟨"HoneyHouse$Blender", "isWithin", "(II)Z"⟩, 14), (⟨"HoneyHouse$Blender", "keepBest", "()V"⟩, 14), (⟨"HoneyHouse", "whereabouts", "(LHoneyHouse$Lot;II)I"⟩, 15), (⟨"HoneyHouseModel", "put", "(I)V"⟩, 44), (⟨"HoneyHouseModel", "pay", "(II)I"⟩, 44)]
theorem lw_r2 : ∀ q ∈ lw_privs_2, lw_okq q := List.forall_mem_cons.mpr ⟨lw_p16, List.forall_mem_cons.mpr ⟨lw_p17, List.forall_mem_cons.mpr ⟨lw_p18, List.forall_mem_cons.mpr ⟨lw_p19, List.forall_mem_cons.mpr ⟨lw_p20, List.forall_mem_cons.mpr ⟨lw_p21, List.forall_mem_cons.mpr ⟨lw_p22, List.forall_mem_cons.mpr ⟨lw_p23, List.forall_mem_cons.mpr ⟨lw_p24, List.forall_mem_cons.mpr ⟨lw_p25, List.forall_mem_cons.mpr ⟨lw_p26, List.forall_mem_cons.mpr ⟨lw_p27, List.forall_mem_cons.mpr ⟨lw_p28, List.forall_mem_cons.mpr ⟨lw_p29, List.forall_mem_cons.mpr ⟨lw_p30, List.forall_mem_cons.mpr ⟨lw_p31, fun _ h => absurd h List.not_mem_nil⟩⟩⟩⟩⟩⟩⟩⟩⟩⟩⟩⟩⟩⟩⟩⟩
theorem lw_p32 : lw_okq (⟨"HoneyHouseModel", "isLot", "(I)Z"⟩, 44) := ⟨⟨by decide +kernel, by decide +kernel⟩, List.mem_of_getElem? (i := 782) (by decide +kernel), List.mem_of_getElem? (i := 954) (by decide +kernel), List.mem_of_getElem? (i := 955) (by decide +kernel)⟩
theorem lw_p33 : lw_okq (⟨"HoneyHouseModel", "all", "(I)I"⟩, 44) := ⟨⟨by decide +kernel, by decide +kernel⟩, List.mem_of_getElem? (i := 782) (by decide +kernel), List.mem_of_getElem? (i := 979) (by decide +kernel), List.mem_of_getElem? (i := 980) (by decide +kernel)⟩
theorem lw_p34 : lw_okq (⟨"HoneyHouseModel", "draw", "(II)V"⟩, 44) := ⟨⟨by decide +kernel, by decide +kernel⟩, List.mem_of_getElem? (i := 782) (by decide +kernel), List.mem_of_getElem? (i := 991) (by decide +kernel), List.mem_of_getElem? (i := 992) (by decide +kernel)⟩
theorem lw_p35 : lw_okq (⟨"HoneyHouseModel", "row", "(II)I"⟩, 44) := ⟨⟨by decide +kernel, by decide +kernel⟩, List.mem_of_getElem? (i := 782) (by decide +kernel), List.mem_of_getElem? (i := 1012) (by decide +kernel), List.mem_of_getElem? (i := 1013) (by decide +kernel)⟩
theorem lw_p36 : lw_okq (⟨"HoneyHouseModel", "sum", "(II)J"⟩, 44) := ⟨⟨by decide +kernel, by decide +kernel⟩, List.mem_of_getElem? (i := 782) (by decide +kernel), List.mem_of_getElem? (i := 1028) (by decide +kernel), List.mem_of_getElem? (i := 1029) (by decide +kernel)⟩
theorem lw_p37 : lw_okq (⟨"HoneyHouseModel", "full", "()I"⟩, 44) := ⟨⟨by decide +kernel, by decide +kernel⟩, List.mem_of_getElem? (i := 782) (by decide +kernel), List.mem_of_getElem? (i := 1036) (by decide +kernel), List.mem_of_getElem? (i := 1037) (by decide +kernel)⟩
theorem lw_p38 : lw_okq (⟨"HoneyHouseModel", "reads", "()V"⟩, 44) := ⟨⟨by decide +kernel, by decide +kernel⟩, List.mem_of_getElem? (i := 782) (by decide +kernel), List.mem_of_getElem? (i := 1040) (by decide +kernel), List.mem_of_getElem? (i := 1041) (by decide +kernel)⟩
theorem lw_p39 : lw_okq (⟨"HoneyHouseModel", "name", "()V"⟩, 44) := ⟨⟨by decide +kernel, by decide +kernel⟩, List.mem_of_getElem? (i := 782) (by decide +kernel), List.mem_of_getElem? (i := 1044) (by decide +kernel), List.mem_of_getElem? (i := 1045) (by decide +kernel)⟩
theorem lw_p40 : lw_okq (⟨"HoneyHouseModel", "here", "()I"⟩, 44) := ⟨⟨by decide +kernel, by decide +kernel⟩, List.mem_of_getElem? (i := 782) (by decide +kernel), List.mem_of_getElem? (i := 1048) (by decide +kernel), List.mem_of_getElem? (i := 1049) (by decide +kernel)⟩
theorem lw_p41 : lw_okq (⟨"HoneyHouseModel", "blame", "(II)V"⟩, 44) := ⟨⟨by decide +kernel, by decide +kernel⟩, List.mem_of_getElem? (i := 782) (by decide +kernel), List.mem_of_getElem? (i := 1055) (by decide +kernel), List.mem_of_getElem? (i := 1056) (by decide +kernel)⟩
theorem lw_p42 : lw_okq (⟨"HoneyHouseModel", "wordEnd", "()I"⟩, 44) := ⟨⟨by decide +kernel, by decide +kernel⟩, List.mem_of_getElem? (i := 782) (by decide +kernel), List.mem_of_getElem? (i := 1059) (by decide +kernel), List.mem_of_getElem? (i := 1060) (by decide +kernel)⟩
theorem lw_p43 : lw_okq (⟨"HoneyHouseModel", "word", "(I)I"⟩, 44) := ⟨⟨by decide +kernel, by decide +kernel⟩, List.mem_of_getElem? (i := 782) (by decide +kernel), List.mem_of_getElem? (i := 1063) (by decide +kernel), List.mem_of_getElem? (i := 1064) (by decide +kernel)⟩
theorem lw_p44 : lw_okq (⟨"HoneyHouseModel", "spells", "(IJI)Z"⟩, 44) := ⟨⟨by decide +kernel, by decide +kernel⟩, List.mem_of_getElem? (i := 782) (by decide +kernel), List.mem_of_getElem? (i := 1068) (by decide +kernel), List.mem_of_getElem? (i := 1069) (by decide +kernel)⟩
theorem lw_p45 : lw_okq (⟨"HoneyHouseModel", "must", "(I)V"⟩, 44) := ⟨⟨by decide +kernel, by decide +kernel⟩, List.mem_of_getElem? (i := 782) (by decide +kernel), List.mem_of_getElem? (i := 1083) (by decide +kernel), List.mem_of_getElem? (i := 1084) (by decide +kernel)⟩
theorem lw_p46 : lw_okq (⟨"HoneyHouseModel", "either", "()V"⟩, 44) := ⟨⟨by decide +kernel, by decide +kernel⟩, List.mem_of_getElem? (i := 782) (by decide +kernel), List.mem_of_getElem? (i := 1087) (by decide +kernel), List.mem_of_getElem? (i := 1088) (by decide +kernel)⟩
theorem lw_p47 : lw_okq (⟨"HoneyHouseModel", "peek", "()I"⟩, 44) := ⟨⟨by decide +kernel, by decide +kernel⟩, List.mem_of_getElem? (i := 782) (by decide +kernel), List.mem_of_getElem? (i := 1091) (by decide +kernel), List.mem_of_getElem? (i := 1092) (by decide +kernel)⟩
def lw_privs_3 : List (MethodName × Nat) := [(⟨"HoneyHouseModel", "isLot", "(I)Z"⟩, 44), (⟨"HoneyHouseModel", "all", "(I)I"⟩, 44), (⟨"HoneyHouseModel", "draw", "(II)V"⟩, 44), (⟨"HoneyHouseModel", "row", "(II)I"⟩, 44), (⟨"HoneyHouseModel", "sum", "(II)J"⟩, 44), (⟨"HoneyHouseModel", "full", "()I"⟩, 44), (⟨"HoneyHouseModel", "reads", "()V"⟩, 44), (⟨"HoneyHouseModel", "name", "()V"⟩, 44), (⟨"HoneyHouseModel", "here", "()I"⟩, 44), (⟨"HoneyHouseModel", "blame", "(II)V"⟩, 44), (⟨"HoneyHouseModel", "wordEnd", "()I"⟩, 44), (⟨"HoneyHouseModel", "word", "(I)I"⟩, 44), (⟨"HoneyHouseModel", "spells", "(IJI)Z"⟩, 44), (⟨"HoneyHouseModel", "must", "(I)V"⟩, 44), (⟨"HoneyHouseModel", "either", "()V"⟩, 44), (⟨"HoneyHouseModel", "peek", "()I"⟩, 44)]
theorem lw_r3 : ∀ q ∈ lw_privs_3, lw_okq q := List.forall_mem_cons.mpr ⟨lw_p32, List.forall_mem_cons.mpr ⟨lw_p33, List.forall_mem_cons.mpr ⟨lw_p34, List.forall_mem_cons.mpr ⟨lw_p35, List.forall_mem_cons.mpr ⟨lw_p36, List.forall_mem_cons.mpr ⟨lw_p37, List.forall_mem_cons.mpr ⟨lw_p38, List.forall_mem_cons.mpr ⟨lw_p39, List.forall_mem_cons.mpr ⟨lw_p40, List.forall_mem_cons.mpr ⟨lw_p41, List.forall_mem_cons.mpr ⟨lw_p42, List.forall_mem_cons.mpr ⟨lw_p43, List.forall_mem_cons.mpr ⟨lw_p44, List.forall_mem_cons.mpr ⟨lw_p45, List.forall_mem_cons.mpr ⟨lw_p46, List.forall_mem_cons.mpr ⟨lw_p47, fun _ h => absurd h List.not_mem_nil⟩⟩⟩⟩⟩⟩⟩⟩⟩⟩⟩⟩⟩⟩⟩⟩
theorem lw_p48 : lw_okq (⟨"HoneyHouseModel", "opens", "(I)V"⟩, 44) := ⟨⟨by decide +kernel, by decide +kernel⟩, List.mem_of_getElem? (i := 782) (by decide +kernel), List.mem_of_getElem? (i := 1095) (by decide +kernel), List.mem_of_getElem? (i := 1096) (by decide +kernel)⟩
theorem lw_p49 : lw_okq (⟨"HoneyHouseModel", "test", "()V"⟩, 44) := ⟨⟨by decide +kernel, by decide +kernel⟩, List.mem_of_getElem? (i := 782) (by decide +kernel), List.mem_of_getElem? (i := 1099) (by decide +kernel), List.mem_of_getElem? (i := 1100) (by decide +kernel)⟩
theorem lw_p50 : lw_okq (⟨"HoneyHouseModel", "number", "(I)I"⟩, 44) := ⟨⟨by decide +kernel, by decide +kernel⟩, List.mem_of_getElem? (i := 782) (by decide +kernel), List.mem_of_getElem? (i := 1103) (by decide +kernel), List.mem_of_getElem? (i := 1104) (by decide +kernel)⟩
theorem lw_p51 : lw_okq (⟨"HoneyHouseModel", "add", "(I)V"⟩, 44) := ⟨⟨by decide +kernel, by decide +kernel⟩, List.mem_of_getElem? (i := 782) (by decide +kernel), List.mem_of_getElem? (i := 1110) (by decide +kernel), List.mem_of_getElem? (i := 1111) (by decide +kernel)⟩
theorem lw_p52 : lw_okq (⟨"HoneyHouseModel", "nots", "()V"⟩, 44) := ⟨⟨by decide +kernel, by decide +kernel⟩, List.mem_of_getElem? (i := 782) (by decide +kernel), List.mem_of_getElem? (i := 1114) (by decide +kernel), List.mem_of_getElem? (i := 1115) (by decide +kernel)⟩
theorem lw_p53 : lw_okq (⟨"HoneyHouseModel", "joins", "(I)V"⟩, 44) := ⟨⟨by decide +kernel, by decide +kernel⟩, List.mem_of_getElem? (i := 782) (by decide +kernel), List.mem_of_getElem? (i := 1118) (by decide +kernel), List.mem_of_getElem? (i := 1119) (by decide +kernel)⟩
theorem lw_p54 : lw_okq (⟨"HoneyHouseModel", "brackets", "()I"⟩, 44) := ⟨⟨by decide +kernel, by decide +kernel⟩, List.mem_of_getElem? (i := 782) (by decide +kernel), List.mem_of_getElem? (i := 1122) (by decide +kernel), List.mem_of_getElem? (i := 1123) (by decide +kernel)⟩
theorem lw_p55 : lw_okq (⟨"HoneyHouseModel", "works", "(II)I"⟩, 44) := ⟨⟨by decide +kernel, by decide +kernel⟩, List.mem_of_getElem? (i := 782) (by decide +kernel), List.mem_of_getElem? (i := 1138) (by decide +kernel), List.mem_of_getElem? (i := 1139) (by decide +kernel)⟩
theorem lw_p56 : lw_okq (⟨"HoneyHouseModel", "tells", "(IIII)I"⟩, 44) := ⟨⟨by decide +kernel, by decide +kernel⟩, List.mem_of_getElem? (i := 782) (by decide +kernel), List.mem_of_getElem? (i := 1142) (by decide +kernel), List.mem_of_getElem? (i := 1143) (by decide +kernel)⟩
theorem lw_p57 : lw_okq (⟨"HoneyHouseModel", "isInForce", "(II)Z"⟩, 44) := ⟨⟨by decide +kernel, by decide +kernel⟩, List.mem_of_getElem? (i := 782) (by decide +kernel), List.mem_of_getElem? (i := 1150) (by decide +kernel), List.mem_of_getElem? (i := 1151) (by decide +kernel)⟩
theorem lw_p58 : lw_okq (⟨"HoneyHouseModel", "isSame", "(II)Z"⟩, 44) := ⟨⟨by decide +kernel, by decide +kernel⟩, List.mem_of_getElem? (i := 782) (by decide +kernel), List.mem_of_getElem? (i := 1154) (by decide +kernel), List.mem_of_getElem? (i := 1155) (by decide +kernel)⟩
def lw_privs_4 : List (MethodName × Nat) := [(⟨"HoneyHouseModel", "opens", "(I)V"⟩, 44), (⟨"HoneyHouseModel", "test", "()V"⟩, 44), (⟨"HoneyHouseModel", "number", "(I)I"⟩, 44), (⟨"HoneyHouseModel", "add", "(I)V"⟩, 44), (⟨"HoneyHouseModel", "nots", "()V"⟩, 44), (⟨"HoneyHouseModel", "joins", "(I)V"⟩, 44), (⟨"HoneyHouseModel", "brackets", "()I"⟩, 44), (⟨"HoneyHouseModel", "works", "(II)I"⟩, 44), (⟨"HoneyHouseModel", "tells", "(IIII)I"⟩, 44), (⟨"HoneyHouseModel", "isInForce", "(II)Z"⟩, 44), (⟨"HoneyHouseModel", "isSame", "(II)Z"⟩, 44)]
theorem lw_r4 : ∀ q ∈ lw_privs_4, lw_okq q := List.forall_mem_cons.mpr ⟨lw_p48, List.forall_mem_cons.mpr ⟨lw_p49, List.forall_mem_cons.mpr ⟨lw_p50, List.forall_mem_cons.mpr ⟨lw_p51, List.forall_mem_cons.mpr ⟨lw_p52, List.forall_mem_cons.mpr ⟨lw_p53, List.forall_mem_cons.mpr ⟨lw_p54, List.forall_mem_cons.mpr ⟨lw_p55, List.forall_mem_cons.mpr ⟨lw_p56, List.forall_mem_cons.mpr ⟨lw_p57, List.forall_mem_cons.mpr ⟨lw_p58, fun _ h => absurd h List.not_mem_nil⟩⟩⟩⟩⟩⟩⟩⟩⟩⟩⟩
def lw_privs : List (MethodName × Nat) := lw_privs_1 ++ (lw_privs_2 ++ (lw_privs_3 ++ (lw_privs_4)))
def lw_tbl : List Cond := k2_sels lw_privs ++ tables_1
theorem lw_privs_ok : ∀ q ∈ lw_privs, lw_okq q := by
  show ∀ q ∈ lw_privs_1 ++ (lw_privs_2 ++ (lw_privs_3 ++ (lw_privs_4))), lw_okq q
  exact List.forall_mem_append.mpr ⟨lw_r1, List.forall_mem_append.mpr ⟨lw_r2, List.forall_mem_append.mpr ⟨lw_r3, lw_r4⟩⟩⟩
-- ===== end of PART A; then your names; then what follows =====
end
section
/-! ===== BEGIN words of one list among another's, by their places ===== -/
theorem goodIn_r {big : List Cond} (ws : List Cond) (ps : List Nat) (hp : ws = ps.filterMap (fun i => big[i]?)) (h : ws.all goodWord = true) : GoodIn big ws := by
  intro w hw
  have h1 := List.all_eq_true.mp h w hw
  rw [hp] at hw
  obtain ⟨i, -, hi⟩ := List.mem_filterMap.mp hw
  have hm : w ∈ big := by first | exact List.mem_of_getElem? hi | exact List.getElem?_mem hi
  exact ⟨hm, good_of_word h1⟩
theorem goodIn_app {big a b : List Cond} (ha : GoodIn big a) (hb : GoodIn big b) : GoodIn big (a ++ b) := fun w h => (List.mem_append.mp h).elim (ha w) (hb w)
theorem goodIn_ca {big a b : List Cond} {c : Cond} (ha : GoodIn big (c :: a)) (hb : GoodIn big b) : GoodIn big (c :: (a ++ b)) := fun w h => (List.mem_cons.mp h).elim (fun e => ha w (List.mem_cons.mpr (Or.inl e))) (fun h => (List.mem_append.mp h).elim (fun h => ha w (List.mem_cons.mpr (Or.inr h))) (hb w))
theorem goodIn_sub {big ws : List Cond} (hm : ∀ w ∈ ws, w ∈ big) (h : ws.all goodWord = true) : GoodIn big ws := fun w hw => ⟨hm w hw, good_of_word (List.all_eq_true.mp h w hw)⟩
/-! ===== END ===== -/

/-! ===== BEGIN printed: names, fields, word lists, decode rows ===== -/
def RX0 : String := "HoneyHouse$Blender"
def TX0 : u_T := fun k => match k with
  | 0 => ("HoneyHouse$Blender", "toldParts", "[I", true)
  | 1 => ("HoneyHouse$Blender", "hasTold", "Z", false)
  | 2 => ("HoneyHouse$Blender", "tankNumbers", "[I", true)
  | 3 => ("HoneyHouse$Blender", "mostParts", "[I", true)
  | 4 => ("HoneyHouse$Blender", "waters", "[I", true)
  | 5 => ("HoneyHouse$Blender", "colours", "[I", true)
  | 6 => ("HoneyHouse$Blender", "prices", "[I", true)
  | 7 => ("HoneyHouse$Blender", "best", "[I", true)
  | 8 => ("HoneyHouse$Blender", "tankCount", "I", false)
  | 9 => ("HoneyHouse$Blender", "bestPrice", "I", false)
  | 10 => ("HoneyHouse$Blender", "partsInAll", "I", false)
  | 11 => ("HoneyHouse$Blender", "mostWater", "I", false)
  | 12 => ("HoneyHouse$Blender", "leastColour", "I", false)
  | _ => ("HoneyHouse$Blender", "mostColour", "I", false)
def tyX0 : Nat → FieldType := fun k => match k with
  | 0 => .array .int
  | 1 => .boolean
  | 2 => .array .int
  | 3 => .array .int
  | 4 => .array .int
  | 5 => .array .int
  | 6 => .array .int
  | 7 => .array .int
  | 8 => .int
  | 9 => .int
  | 10 => .int
  | 11 => .int
  | 12 => .int
  | _ => .int
abbrev wsX00 : List Cond := u_ws RX0 TX0 14
theorem nmX0 : ∀ a, a < 14 → ∀ b, b < 14 → a ≠ b → (TX0 a).2.1 ≠ (TX0 b).2.1 := by decide +kernel
theorem tyX0_ok : ∀ k, k < 14 → parseFieldDescriptor (TX0 k).2.2.1 = some (tyX0 k) := by decide +kernel
abbrev cX0_init : ByteArray := prog_2_method_1_code
def yX0_init : MethodName := ⟨RX0, "<init>", "()V"⟩
abbrev cX0_begin : ByteArray := prog_2_method_2_code
def yX0_begin : MethodName := ⟨RX0, "begin", "(IIII)V"⟩
abbrev cX0_addTank : ByteArray := prog_2_method_3_code
def yX0_addTank : MethodName := ⟨RX0, "addTank", "(IIIII)V"⟩
abbrev cX0_leastPrice : ByteArray := prog_2_method_4_code
def yX0_leastPrice : MethodName := ⟨RX0, "leastPrice", "()I"⟩
abbrev cX0_tryWith : ByteArray := prog_2_method_5_code
def yX0_tryWith : MethodName := ⟨RX0, "tryWith", "(II)V"⟩
abbrev cX0_isWithin : ByteArray := prog_2_method_6_code
def yX0_isWithin : MethodName := ⟨RX0, "isWithin", "(II)Z"⟩
abbrev cX0_keepBest : ByteArray := prog_2_method_7_code
def yX0_keepBest : MethodName := ⟨RX0, "keepBest", "()V"⟩
def RX1 : String := "HoneyHouse$Draught"
def TX1 : u_T := fun k => match k with
  | 0 => ("HoneyHouse$Draught", "grams", "[I", true)
  | _ => ("HoneyHouse$Draught", "rests", "[J", true)
def tyX1 : Nat → FieldType := fun k => match k with
  | 0 => .array .int
  | _ => .array .long
abbrev wsX10 : List Cond := u_ws RX1 TX1 2
theorem nmX1 : ∀ a, a < 2 → ∀ b, b < 2 → a ≠ b → (TX1 a).2.1 ≠ (TX1 b).2.1 := by decide +kernel
theorem tyX1_ok : ∀ k, k < 2 → parseFieldDescriptor (TX1 k).2.2.1 = some (tyX1 k) := by decide +kernel
abbrev cX1_init : ByteArray := prog_3_method_1_code
def yX1_init : MethodName := ⟨RX1, "<init>", "()V"⟩
abbrev cX1_drawFrom : ByteArray := prog_3_method_2_code
def yX1_drawFrom : MethodName := ⟨RX1, "drawFrom", "(LHoneyHouse$Vessel;I)V"⟩
abbrev cX1_fillInto : ByteArray := prog_3_method_3_code
def yX1_fillInto : MethodName := ⟨RX1, "fillInto", "(LHoneyHouse$Vessel;I)V"⟩
abbrev cX1_shareOut : ByteArray := prog_3_method_4_code
def yX1_shareOut : MethodName := ⟨RX1, "shareOut", "(LHoneyHouse$Vessel;I)V"⟩
abbrev cX1_greatestRest : ByteArray := prog_3_method_5_code
def yX1_greatestRest : MethodName := ⟨RX1, "greatestRest", "()I"⟩
def RX2 : String := "HoneyHouse$Lot"
def TX2 : u_T := fun k => match k with
  | 0 => ("HoneyHouse$Lot", "keeper", "I", true)
  | 1 => ("HoneyHouse$Lot", "grams", "I", true)
  | 2 => ("HoneyHouse$Lot", "colour", "I", true)
  | 3 => ("HoneyHouse$Lot", "land", "I", true)
  | 4 => ("HoneyHouse$Lot", "low", "[I", true)
  | 5 => ("HoneyHouse$Lot", "high", "[I", true)
  | 6 => ("HoneyHouse$Lot", "steps", "LHoneyHouse$Steps;", true)
  | 7 => ("HoneyHouse$Lot", "water", "I", false)
  | 8 => ("HoneyHouse$Lot", "left", "I", false)
  | _ => ("HoneyHouse$Lot", "pay", "I", false)
def tyX2 : Nat → FieldType := fun k => match k with
  | 0 => .int
  | 1 => .int
  | 2 => .int
  | 3 => .int
  | 4 => .array .int
  | 5 => .array .int
  | 6 => .object "HoneyHouse$Steps"
  | 7 => .int
  | 8 => .int
  | _ => .int
abbrev wsX20 : List Cond := u_ws RX2 TX2 10
theorem nmX2 : ∀ a, a < 10 → ∀ b, b < 10 → a ≠ b → (TX2 a).2.1 ≠ (TX2 b).2.1 := by decide +kernel
theorem tyX2_ok : ∀ k, k < 10 → parseFieldDescriptor (TX2 k).2.2.1 = some (tyX2 k) := by decide +kernel
abbrev cX2_init : ByteArray := prog_4_method_1_code
def yX2_init : MethodName := ⟨RX2, "<init>", "(IIIIILHoneyHouse$Steps;)V"⟩
abbrev cX2_perGram : ByteArray := prog_4_method_2_code
def yX2_perGram : MethodName := ⟨RX2, "perGram", "(I)I"⟩
def RX3 : String := "HoneyHouse$Rule"
def TX3 : u_T := fun k => match k with
  | 0 => ("HoneyHouse$Rule", "nameKey", "J", true)
  | 1 => ("HoneyHouse$Rule", "from", "I", true)
  | 2 => ("HoneyHouse$Rule", "code", "[I", true)
  | 3 => ("HoneyHouse$Rule", "isShut", "Z", false)
  | _ => ("HoneyHouse$Rule", "shutDay", "I", false)
def tyX3 : Nat → FieldType := fun k => match k with
  | 0 => .long
  | 1 => .int
  | 2 => .array .int
  | 3 => .boolean
  | _ => .int
abbrev wsX30 : List Cond := u_ws RX3 TX3 5
theorem nmX3 : ∀ a, a < 5 → ∀ b, b < 5 → a ≠ b → (TX3 a).2.1 ≠ (TX3 b).2.1 := by decide +kernel
theorem tyX3_ok : ∀ k, k < 5 → parseFieldDescriptor (TX3 k).2.2.1 = some (tyX3 k) := by decide +kernel
abbrev cX3_init : ByteArray := prog_5_method_1_code
def yX3_init : MethodName := ⟨RX3, "<init>", "(JI[I)V"⟩
def RX4 : String := "HoneyHouse$RuleReader"
def TX4 : u_T := fun k => match k with
  | 0 => ("HoneyHouse$RuleReader", "tape", "LHoneyHouse$Tape;", true)
  | 1 => ("HoneyHouse$RuleReader", "nameKey", "J", false)
  | 2 => ("HoneyHouse$RuleReader", "from", "I", false)
  | 3 => ("HoneyHouse$RuleReader", "faultKind", "I", false)
  | 4 => ("HoneyHouse$RuleReader", "faultPlace", "I", false)
  | 5 => ("HoneyHouse$RuleReader", "codes", "[I", true)
  | 6 => ("HoneyHouse$RuleReader", "codeCount", "I", false)
  | _ => ("HoneyHouse$RuleReader", "value", "I", false)
def tyX4 : Nat → FieldType := fun k => match k with
  | 0 => .object "HoneyHouse$Tape"
  | 1 => .long
  | 2 => .int
  | 3 => .int
  | 4 => .int
  | 5 => .array .int
  | 6 => .int
  | _ => .int
abbrev wsX40 : List Cond := u_ws RX4 TX4 8
theorem nmX4 : ∀ a, a < 8 → ∀ b, b < 8 → a ≠ b → (TX4 a).2.1 ≠ (TX4 b).2.1 := by decide +kernel
theorem tyX4_ok : ∀ k, k < 8 → parseFieldDescriptor (TX4 k).2.2.1 = some (tyX4 k) := by decide +kernel
abbrev cX4_init : ByteArray := prog_6_method_1_code
def yX4_init : MethodName := ⟨RX4, "<init>", "()V"⟩
abbrev cX4_read : ByteArray := prog_6_method_2_code
def yX4_read : MethodName := ⟨RX4, "read", "()Z"⟩
abbrev cX4_codeRead : ByteArray := prog_6_method_3_code
def yX4_codeRead : MethodName := ⟨RX4, "codeRead", "()[I"⟩
abbrev cX4_failAt : ByteArray := prog_6_method_4_code
def yX4_failAt : MethodName := ⟨RX4, "failAt", "(II)Z"⟩
abbrev cX4_failHere : ByteArray := prog_6_method_5_code
def yX4_failHere : MethodName := ⟨RX4, "failHere", "()Z"⟩
abbrev cX4_readName : ByteArray := prog_6_method_6_code
def yX4_readName : MethodName := ⟨RX4, "readName", "()Z"⟩
abbrev cX4_isKeptWord : ByteArray := prog_6_method_7_code
def yX4_isKeptWord : MethodName := ⟨RX4, "isKeptWord", "()Z"⟩
abbrev cX4_readByte : ByteArray := prog_6_method_8_code
def yX4_readByte : MethodName := ⟨RX4, "readByte", "(C)Z"⟩
abbrev cX4_readWord : ByteArray := prog_6_method_9_code
def yX4_readWord : MethodName := ⟨RX4, "readWord", "(Ljava/lang/String;)Z"⟩
abbrev cX4_readNumber : ByteArray := prog_6_method_10_code
def yX4_readNumber : MethodName := ⟨RX4, "readNumber", "(I)Z"⟩
abbrev cX4_readEither : ByteArray := prog_6_method_11_code
def yX4_readEither : MethodName := ⟨RX4, "readEither", "(I)Z"⟩
abbrev cX4_isAndOr : ByteArray := prog_6_method_12_code
def yX4_isAndOr : MethodName := ⟨RX4, "isAndOr", "()Z"⟩
abbrev cX4_readOne : ByteArray := prog_6_method_13_code
def yX4_readOne : MethodName := ⟨RX4, "readOne", "(I)Z"⟩
abbrev cX4_readTest : ByteArray := prog_6_method_14_code
def yX4_readTest : MethodName := ⟨RX4, "readTest", "()Z"⟩
abbrev cX4_measureNamed : ByteArray := prog_6_method_15_code
def yX4_measureNamed : MethodName := ⟨RX4, "measureNamed", "()I"⟩
abbrev cX4_testCode : ByteArray := prog_6_method_16_code
def yX4_testCode : MethodName := ⟨RX4, "testCode", "(IZI)I"⟩
abbrev cX4_addCode : ByteArray := prog_6_method_17_code
def yX4_addCode : MethodName := ⟨RX4, "addCode", "(I)V"⟩
def RX5 : String := "HoneyHouse$Steps"
def TX5 : u_T := fun k => match k with
  | 0 => ("HoneyHouse$Steps", "waters", "[I", true)
  | _ => ("HoneyHouse$Steps", "prices", "[I", true)
def tyX5 : Nat → FieldType := fun k => match k with
  | 0 => .array .int
  | _ => .array .int
abbrev wsX50 : List Cond := u_ws RX5 TX5 2
theorem nmX5 : ∀ a, a < 2 → ∀ b, b < 2 → a ≠ b → (TX5 a).2.1 ≠ (TX5 b).2.1 := by decide +kernel
theorem tyX5_ok : ∀ k, k < 2 → parseFieldDescriptor (TX5 k).2.2.1 = some (tyX5 k) := by decide +kernel
abbrev cX5_init : ByteArray := prog_7_method_1_code
def yX5_init : MethodName := ⟨RX5, "<init>", "()V"⟩
abbrev cX5_copyFrom : ByteArray := prog_7_method_2_code
def yX5_copyFrom : MethodName := ⟨RX5, "copyFrom", "(LHoneyHouse$Steps;)V"⟩
abbrev cX5_payFor : ByteArray := prog_7_method_3_code
def yX5_payFor : MethodName := ⟨RX5, "payFor", "(II)I"⟩
def RX6 : String := "HoneyHouse$Tape"
def TX6 : u_T := fun k => match k with
  | 0 => ("HoneyHouse$Tape", "length", "I", false)
  | 1 => ("HoneyHouse$Tape", "kind", "I", false)
  | 2 => ("HoneyHouse$Tape", "start", "I", false)
  | 3 => ("HoneyHouse$Tape", "end", "I", false)
  | _ => ("HoneyHouse$Tape", "bytes", "[I", true)
def tyX6 : Nat → FieldType := fun k => match k with
  | 0 => .int
  | 1 => .int
  | 2 => .int
  | 3 => .int
  | _ => .array .int
abbrev wsX60 : List Cond := u_ws RX6 TX6 5
theorem nmX6 : ∀ a, a < 5 → ∀ b, b < 5 → a ≠ b → (TX6 a).2.1 ≠ (TX6 b).2.1 := by decide +kernel
theorem tyX6_ok : ∀ k, k < 5 → parseFieldDescriptor (TX6 k).2.2.1 = some (tyX6 k) := by decide +kernel
abbrev cX6_init : ByteArray := prog_8_method_1_code
def yX6_init : MethodName := ⟨RX6, "<init>", "()V"⟩
abbrev cX6_append : ByteArray := prog_8_method_2_code
def yX6_append : MethodName := ⟨RX6, "append", "(I)V"⟩
abbrev cX6_rewind : ByteArray := prog_8_method_3_code
def yX6_rewind : MethodName := ⟨RX6, "rewind", "()V"⟩
abbrev cX6_advance : ByteArray := prog_8_method_4_code
def yX6_advance : MethodName := ⟨RX6, "advance", "()V"⟩
abbrev cX6_isByte : ByteArray := prog_8_method_5_code
def yX6_isByte : MethodName := ⟨RX6, "isByte", "(C)Z"⟩
abbrev cX6_isWord : ByteArray := prog_8_method_6_code
def yX6_isWord : MethodName := ⟨RX6, "isWord", "(Ljava/lang/String;)Z"⟩
abbrev cX6_wordKey : ByteArray := prog_8_method_7_code
def yX6_wordKey : MethodName := ⟨RX6, "wordKey", "()J"⟩
abbrev cX6_numberValue : ByteArray := prog_8_method_8_code
def yX6_numberValue : MethodName := ⟨RX6, "numberValue", "()I"⟩
abbrev cX6_byteAt : ByteArray := prog_8_method_9_code
def yX6_byteAt : MethodName := ⟨RX6, "byteAt", "(I)I"⟩
abbrev cX6_kindOf : ByteArray := prog_8_method_10_code
def yX6_kindOf : MethodName := ⟨RX6, "kindOf", "(I)I"⟩
def RX7 : String := "HoneyHouse$Vessel"
def TX7 : u_T := fun k => match k with
  | 0 => ("HoneyHouse$Vessel", "grams", "[I", true)
  | 1 => ("HoneyHouse$Vessel", "total", "I", false)
  | 2 => ("HoneyHouse$Vessel", "heat", "I", false)
  | 3 => ("HoneyHouse$Vessel", "roomOrTank", "I", false)
  | _ => ("HoneyHouse$Vessel", "priceOrDay", "I", false)
def tyX7 : Nat → FieldType := fun k => match k with
  | 0 => .array .int
  | 1 => .int
  | 2 => .int
  | 3 => .int
  | _ => .int
abbrev wsX70 : List Cond := u_ws RX7 TX7 5
theorem nmX7 : ∀ a, a < 5 → ∀ b, b < 5 → a ≠ b → (TX7 a).2.1 ≠ (TX7 b).2.1 := by decide +kernel
theorem tyX7_ok : ∀ k, k < 5 → parseFieldDescriptor (TX7 k).2.2.1 = some (tyX7 k) := by decide +kernel
abbrev cX7_init : ByteArray := prog_9_method_1_code
def yX7_init : MethodName := ⟨RX7, "<init>", "(II)V"⟩
abbrev cX7_hasRoomFor : ByteArray := prog_9_method_2_code
def yX7_hasRoomFor : MethodName := ⟨RX7, "hasRoomFor", "(I)Z"⟩
abbrev cX7_gramsOf : ByteArray := prog_9_method_3_code
def yX7_gramsOf : MethodName := ⟨RX7, "gramsOf", "(I)I"⟩
abbrev cX7_lotsInIt : ByteArray := prog_9_method_4_code
def yX7_lotsInIt : MethodName := ⟨RX7, "lotsInIt", "()I"⟩
abbrev cX7_addGrams : ByteArray := prog_9_method_5_code
def yX7_addGrams : MethodName := ⟨RX7, "addGrams", "(II)V"⟩
def RX8 : String := "HoneyHouse"
def TX8 : u_T := fun k => match k with
  | 0 => ("HoneyHouse", "lots", "[LHoneyHouse$Lot;", true)
  | 1 => ("HoneyHouse", "tanks", "[LHoneyHouse$Vessel;", true)
  | 2 => ("HoneyHouse", "batches", "[LHoneyHouse$Vessel;", true)
  | 3 => ("HoneyHouse", "rules", "[LHoneyHouse$Rule;", true)
  | 4 => ("HoneyHouse", "stepsNow", "LHoneyHouse$Steps;", true)
  | 5 => ("HoneyHouse", "reader", "LHoneyHouse$RuleReader;", true)
  | 6 => ("HoneyHouse", "draught", "LHoneyHouse$Draught;", true)
  | 7 => ("HoneyHouse", "blender", "LHoneyHouse$Blender;", true)
  | 8 => ("HoneyHouse", "verdicts", "[I", true)
  | 9 => ("HoneyHouse", "foundBatches", "[I", true)
  | 10 => ("HoneyHouse", "lotCount", "I", false)
  | 11 => ("HoneyHouse", "batchCount", "I", false)
  | 12 => ("HoneyHouse", "ruleCount", "I", false)
  | 13 => ("HoneyHouse", "foundCount", "I", false)
  | _ => ("HoneyHouse", "dayNow", "I", false)
def tyX8 : Nat → FieldType := fun k => match k with
  | 0 => .array (.object "HoneyHouse$Lot")
  | 1 => .array (.object "HoneyHouse$Vessel")
  | 2 => .array (.object "HoneyHouse$Vessel")
  | 3 => .array (.object "HoneyHouse$Rule")
  | 4 => .object "HoneyHouse$Steps"
  | 5 => .object "HoneyHouse$RuleReader"
  | 6 => .object "HoneyHouse$Draught"
  | 7 => .object "HoneyHouse$Blender"
  | 8 => .array .int
  | 9 => .array .int
  | 10 => .int
  | 11 => .int
  | 12 => .int
  | 13 => .int
  | _ => .int
abbrev wsX80 : List Cond := u_ws RX8 TX8 15
theorem nmX8 : ∀ a, a < 15 → ∀ b, b < 15 → a ≠ b → (TX8 a).2.1 ≠ (TX8 b).2.1 := by decide +kernel
theorem tyX8_ok : ∀ k, k < 15 → parseFieldDescriptor (TX8 k).2.2.1 = some (tyX8 k) := by decide +kernel
abbrev cX8_init : ByteArray := prog_1_method_1_code
def yX8_init : MethodName := ⟨RX8, "<init>", "()V"⟩
abbrev cX8_feed : ByteArray := prog_1_method_2_code
def yX8_feed : MethodName := ⟨RX8, "feed", "(IIIII)I"⟩
abbrev cX8_end : ByteArray := prog_1_method_3_code
def yX8_end : MethodName := ⟨RX8, "end", "(I)Z"⟩
abbrev cX8_today : ByteArray := prog_1_method_4_code
def yX8_today : MethodName := ⟨RX8, "today", "(I)Z"⟩
abbrev cX8_lot : ByteArray := prog_1_method_5_code
def yX8_lot : MethodName := ⟨RX8, "lot", "(IIIII)I"⟩
abbrev cX8_pollen : ByteArray := prog_1_method_6_code
def yX8_pollen : MethodName := ⟨RX8, "pollen", "(IIII)Z"⟩
abbrev cX8_test : ByteArray := prog_1_method_7_code
def yX8_test : MethodName := ⟨RX8, "test", "(II)I"⟩
abbrev cX8_of : ByteArray := prog_1_method_8_code
def yX8_of : MethodName := ⟨RX8, "of", "(II)I"⟩
abbrev cX8_span : ByteArray := prog_1_method_9_code
def yX8_span : MethodName := ⟨RX8, "span", "(III)I"⟩
abbrev cX8_tank : ByteArray := prog_1_method_10_code
def yX8_tank : MethodName := ⟨RX8, "tank", "(III)Z"⟩
abbrev cX8_pour : ByteArray := prog_1_method_11_code
def yX8_pour : MethodName := ⟨RX8, "pour", "(III)I"⟩
abbrev cX8_move : ByteArray := prog_1_method_12_code
def yX8_move : MethodName := ⟨RX8, "move", "(III)I"⟩
abbrev cX8_warm : ByteArray := prog_1_method_13_code
def yX8_warm : MethodName := ⟨RX8, "warm", "(II)I"⟩
abbrev cX8_jar : ByteArray := prog_1_method_14_code
def yX8_jar : MethodName := ⟨RX8, "jar", "(II)I"⟩
abbrev cX8_spill : ByteArray := prog_1_method_15_code
def yX8_spill : MethodName := ⟨RX8, "spill", "(II)I"⟩
abbrev cX8_holds : ByteArray := prog_1_method_16_code
def yX8_holds : MethodName := ⟨RX8, "holds", "(III)I"⟩
abbrev cX8_part : ByteArray := prog_1_method_17_code
def yX8_part : MethodName := ⟨RX8, "part", "(III)I"⟩
abbrev cX8_measure : ByteArray := prog_1_method_18_code
def yX8_measure : MethodName := ⟨RX8, "measure", "(III)I"⟩
abbrev cX8_rule : ByteArray := prog_1_method_19_code
def yX8_rule : MethodName := ⟨RX8, "rule", "()I"⟩
abbrev cX8_fault : ByteArray := prog_1_method_20_code
def yX8_fault : MethodName := ⟨RX8, "fault", "(I)I"⟩
abbrev cX8_shut : ByteArray := prog_1_method_21_code
def yX8_shut : MethodName := ⟨RX8, "shut", "(II)Z"⟩
abbrev cX8_says : ByteArray := prog_1_method_22_code
def yX8_says : MethodName := ⟨RX8, "says", "(III)I"⟩
abbrev cX8_name : ByteArray := prog_1_method_23_code
def yX8_name : MethodName := ⟨RX8, "name", "(III)I"⟩
abbrev cX8_step : ByteArray := prog_1_method_24_code
def yX8_step : MethodName := ⟨RX8, "step", "(III)Z"⟩
abbrev cX8_paid : ByteArray := prog_1_method_25_code
def yX8_paid : MethodName := ⟨RX8, "paid", "(I)J"⟩
abbrev cX8_blend : ByteArray := prog_1_method_26_code
def yX8_blend : MethodName := ⟨RX8, "blend", "(IIIII)I"⟩
abbrev cX8_parts : ByteArray := prog_1_method_27_code
def yX8_parts : MethodName := ⟨RX8, "parts", "(I)I"⟩
abbrev cX8_trace : ByteArray := prog_1_method_28_code
def yX8_trace : MethodName := ⟨RX8, "trace", "(I)I"⟩
abbrev cX8_found : ByteArray := prog_1_method_29_code
def yX8_found : MethodName := ⟨RX8, "found", "(I)I"⟩
abbrev cX8_whose : ByteArray := prog_1_method_30_code
def yX8_whose : MethodName := ⟨RX8, "whose", "(II)J"⟩
abbrev cX8_count : ByteArray := prog_1_method_31_code
def yX8_count : MethodName := ⟨RX8, "count", "(I)I"⟩
abbrev cX8_isIn : ByteArray := prog_1_method_32_code
def yX8_isIn : MethodName := ⟨RX8, "isIn", "(III)Z"⟩
abbrev cX8_lotAt : ByteArray := prog_1_method_33_code
def yX8_lotAt : MethodName := ⟨RX8, "lotAt", "(I)LHoneyHouse$Lot;"⟩
abbrev cX8_tankAt : ByteArray := prog_1_method_34_code
def yX8_tankAt : MethodName := ⟨RX8, "tankAt", "(I)LHoneyHouse$Vessel;"⟩
abbrev cX8_vesselAt : ByteArray := prog_1_method_35_code
def yX8_vesselAt : MethodName := ⟨RX8, "vesselAt", "(II)LHoneyHouse$Vessel;"⟩
abbrev cX8_ruleAt : ByteArray := prog_1_method_36_code
def yX8_ruleAt : MethodName := ⟨RX8, "ruleAt", "(I)LHoneyHouse$Rule;"⟩
abbrev cX8_sumWith : ByteArray := prog_1_method_37_code
def yX8_sumWith : MethodName := ⟨RX8, "sumWith", "([III)I"⟩
abbrev cX8_isPollenLow : ByteArray := prog_1_method_38_code
def yX8_isPollenLow : MethodName := ⟨RX8, "isPollenLow", "(I)Z"⟩
abbrev cX8_isPollenHigh : ByteArray := prog_1_method_39_code
def yX8_isPollenHigh : MethodName := ⟨RX8, "isPollenHigh", "(I)Z"⟩
abbrev cX8_isMeasure : ByteArray := prog_1_method_40_code
def yX8_isMeasure : MethodName := ⟨RX8, "isMeasure", "(I)Z"⟩
abbrev cX8_weighed : ByteArray := prog_1_method_41_code
def yX8_weighed : MethodName := ⟨RX8, "weighed", "(LHoneyHouse$Vessel;I)J"⟩
abbrev cX8_told : ByteArray := prog_1_method_42_code
def yX8_told : MethodName := ⟨RX8, "told", "(LHoneyHouse$Vessel;I)I"⟩
abbrev cX8_verdict : ByteArray := prog_1_method_43_code
def yX8_verdict : MethodName := ⟨RX8, "verdict", "(LHoneyHouse$Rule;LHoneyHouse$Vessel;)I"⟩
abbrev cX8_verdictOfTest : ByteArray := prog_1_method_44_code
def yX8_verdictOfTest : MethodName := ⟨RX8, "verdictOfTest", "(ILHoneyHouse$Vessel;)I"⟩
abbrev cX8_isInForce : ByteArray := prog_1_method_45_code
def yX8_isInForce : MethodName := ⟨RX8, "isInForce", "(LHoneyHouse$Rule;II)Z"⟩
abbrev cX8_hasBit : ByteArray := prog_1_method_46_code
def yX8_hasBit : MethodName := ⟨RX8, "hasBit", "(II)Z"⟩
abbrev cX8_areTanksToBlend : ByteArray := prog_1_method_47_code
def yX8_areTanksToBlend : MethodName := ⟨RX8, "areTanksToBlend", "(I)Z"⟩
abbrev cX8_whereabouts : ByteArray := prog_1_method_48_code
def yX8_whereabouts : MethodName := ⟨RX8, "whereabouts", "(LHoneyHouse$Lot;II)I"⟩
abbrev cX8_gramsIn : ByteArray := prog_1_method_49_code
def yX8_gramsIn : MethodName := ⟨RX8, "gramsIn", "([LHoneyHouse$Vessel;I)I"⟩
def RX9 : String := "HoneyHouseModel"
def TX9 : u_T := fun k => match k with
  | 0 => ("HoneyHouseModel", "tape", "[I", true)
  | 1 => ("HoneyHouseModel", "taped", "I", false)
  | 2 => ("HoneyHouseModel", "today", "I", false)
  | 3 => ("HoneyHouseModel", "lots", "I", false)
  | 4 => ("HoneyHouseModel", "lot", "[I", true)
  | 5 => ("HoneyHouseModel", "low", "[I", true)
  | 6 => ("HoneyHouseModel", "high", "[I", true)
  | 7 => ("HoneyHouseModel", "lotSteps", "[I", true)
  | 8 => ("HoneyHouseModel", "steps", "[I", true)
  | 9 => ("HoneyHouseModel", "grams", "[I", true)
  | 10 => ("HoneyHouseModel", "heat", "[I", true)
  | 11 => ("HoneyHouseModel", "room", "[I", true)
  | 12 => ("HoneyHouseModel", "price", "[I", true)
  | 13 => ("HoneyHouseModel", "batches", "I", false)
  | 14 => ("HoneyHouseModel", "rules", "I", false)
  | 15 => ("HoneyHouseModel", "names", "[I", true)
  | 16 => ("HoneyHouseModel", "nameSize", "[I", true)
  | 17 => ("HoneyHouseModel", "from", "[I", true)
  | 18 => ("HoneyHouseModel", "shuts", "[I", true)
  | 19 => ("HoneyHouseModel", "code", "[I", true)
  | 20 => ("HoneyHouseModel", "codeSize", "[I", true)
  | 21 => ("HoneyHouseModel", "faultKind", "I", false)
  | 22 => ("HoneyHouseModel", "faultPlace", "I", false)
  | 23 => ("HoneyHouseModel", "drawn", "[I", true)
  | 24 => ("HoneyHouseModel", "rest", "[J", true)
  | 25 => ("HoneyHouseModel", "at", "I", false)
  | 26 => ("HoneyHouseModel", "size", "I", false)
  | 27 => ("HoneyHouseModel", "begin", "I", false)
  | 28 => ("HoneyHouseModel", "pile", "[I", true)
  | 29 => ("HoneyHouseModel", "piled", "I", false)
  | 30 => ("HoneyHouseModel", "made", "I", false)
  | 31 => ("HoneyHouseModel", "deep", "I", false)
  | 32 => ("HoneyHouseModel", "keptName", "[I", true)
  | 33 => ("HoneyHouseModel", "keptCode", "[I", true)
  | 34 => ("HoneyHouseModel", "held", "[I", true)
  | 35 => ("HoneyHouseModel", "blended", "Z", false)
  | 36 => ("HoneyHouseModel", "parts", "[I", true)
  | 37 => ("HoneyHouseModel", "which", "[I", true)
  | 38 => ("HoneyHouseModel", "wet", "[I", true)
  | 39 => ("HoneyHouseModel", "dark", "[I", true)
  | 40 => ("HoneyHouseModel", "cost", "[I", true)
  | 41 => ("HoneyHouseModel", "there", "[I", true)
  | 42 => ("HoneyHouseModel", "found", "[I", true)
  | _ => ("HoneyHouseModel", "founds", "I", false)
def tyX9 : Nat → FieldType := fun k => match k with
  | 0 => .array .int
  | 1 => .int
  | 2 => .int
  | 3 => .int
  | 4 => .array .int
  | 5 => .array .int
  | 6 => .array .int
  | 7 => .array .int
  | 8 => .array .int
  | 9 => .array .int
  | 10 => .array .int
  | 11 => .array .int
  | 12 => .array .int
  | 13 => .int
  | 14 => .int
  | 15 => .array .int
  | 16 => .array .int
  | 17 => .array .int
  | 18 => .array .int
  | 19 => .array .int
  | 20 => .array .int
  | 21 => .int
  | 22 => .int
  | 23 => .array .int
  | 24 => .array .long
  | 25 => .int
  | 26 => .int
  | 27 => .int
  | 28 => .array .int
  | 29 => .int
  | 30 => .int
  | 31 => .int
  | 32 => .array .int
  | 33 => .array .int
  | 34 => .array .int
  | 35 => .boolean
  | 36 => .array .int
  | 37 => .array .int
  | 38 => .array .int
  | 39 => .array .int
  | 40 => .array .int
  | 41 => .array .int
  | 42 => .array .int
  | _ => .int
abbrev wsX90 : List Cond := u_ws RX9 TX9 44
theorem nmX9 : ∀ a, a < 44 → ∀ b, b < 44 → a ≠ b → (TX9 a).2.1 ≠ (TX9 b).2.1 := by decide +kernel
theorem tyX9_ok : ∀ k, k < 44 → parseFieldDescriptor (TX9 k).2.2.1 = some (tyX9 k) := by decide +kernel
abbrev cX9_init : ByteArray := prog_11_method_1_code
def yX9_init : MethodName := ⟨RX9, "<init>", "()V"⟩
abbrev cX9_is : ByteArray := prog_11_method_2_code
def yX9_is : MethodName := ⟨RX9, "is", "(III)Z"⟩
abbrev cX9_put : ByteArray := prog_11_method_3_code
def yX9_put : MethodName := ⟨RX9, "put", "(I)V"⟩
abbrev cX9_feed : ByteArray := prog_11_method_4_code
def yX9_feed : MethodName := ⟨RX9, "feed", "(IIIII)I"⟩
abbrev cX9_end : ByteArray := prog_11_method_5_code
def yX9_end : MethodName := ⟨RX9, "end", "(I)Z"⟩
abbrev cX9_today : ByteArray := prog_11_method_6_code
def yX9_today : MethodName := ⟨RX9, "today", "(I)Z"⟩
abbrev cX9_isLot : ByteArray := prog_11_method_7_code
def yX9_isLot : MethodName := ⟨RX9, "isLot", "(I)Z"⟩
abbrev cX9_pay : ByteArray := prog_11_method_8_code
def yX9_pay : MethodName := ⟨RX9, "pay", "(II)I"⟩
abbrev cX9_lot : ByteArray := prog_11_method_9_code
def yX9_lot : MethodName := ⟨RX9, "lot", "(IIIII)I"⟩
abbrev cX9_pollen : ByteArray := prog_11_method_10_code
def yX9_pollen : MethodName := ⟨RX9, "pollen", "(IIII)Z"⟩
abbrev cX9_test : ByteArray := prog_11_method_11_code
def yX9_test : MethodName := ⟨RX9, "test", "(II)I"⟩
abbrev cX9_of : ByteArray := prog_11_method_12_code
def yX9_of : MethodName := ⟨RX9, "of", "(II)I"⟩
abbrev cX9_span : ByteArray := prog_11_method_13_code
def yX9_span : MethodName := ⟨RX9, "span", "(III)I"⟩
abbrev cX9_isTank : ByteArray := prog_11_method_14_code
def yX9_isTank : MethodName := ⟨RX9, "isTank", "(I)Z"⟩
abbrev cX9_row : ByteArray := prog_11_method_15_code
def yX9_row : MethodName := ⟨RX9, "row", "(II)I"⟩
abbrev cX9_all : ByteArray := prog_11_method_16_code
def yX9_all : MethodName := ⟨RX9, "all", "(I)I"⟩
abbrev cX9_tank : ByteArray := prog_11_method_17_code
def yX9_tank : MethodName := ⟨RX9, "tank", "(III)Z"⟩
abbrev cX9_pour : ByteArray := prog_11_method_18_code
def yX9_pour : MethodName := ⟨RX9, "pour", "(III)I"⟩
abbrev cX9_draw : ByteArray := prog_11_method_19_code
def yX9_draw : MethodName := ⟨RX9, "draw", "(II)V"⟩
abbrev cX9_move : ByteArray := prog_11_method_20_code
def yX9_move : MethodName := ⟨RX9, "move", "(III)I"⟩
abbrev cX9_warm : ByteArray := prog_11_method_21_code
def yX9_warm : MethodName := ⟨RX9, "warm", "(II)I"⟩
abbrev cX9_jar : ByteArray := prog_11_method_22_code
def yX9_jar : MethodName := ⟨RX9, "jar", "(II)I"⟩
abbrev cX9_spill : ByteArray := prog_11_method_23_code
def yX9_spill : MethodName := ⟨RX9, "spill", "(II)I"⟩
abbrev cX9_holds : ByteArray := prog_11_method_24_code
def yX9_holds : MethodName := ⟨RX9, "holds", "(III)I"⟩
abbrev cX9_part : ByteArray := prog_11_method_25_code
def yX9_part : MethodName := ⟨RX9, "part", "(III)I"⟩
abbrev cX9_sum : ByteArray := prog_11_method_26_code
def yX9_sum : MethodName := ⟨RX9, "sum", "(II)J"⟩
abbrev cX9_isMeasure : ByteArray := prog_11_method_27_code
def yX9_isMeasure : MethodName := ⟨RX9, "isMeasure", "(I)Z"⟩
abbrev cX9_measure : ByteArray := prog_11_method_28_code
def yX9_measure : MethodName := ⟨RX9, "measure", "(III)I"⟩
abbrev cX9_isLetter : ByteArray := prog_11_method_29_code
def yX9_isLetter : MethodName := ⟨RX9, "isLetter", "(I)Z"⟩
abbrev cX9_isDigit : ByteArray := prog_11_method_30_code
def yX9_isDigit : MethodName := ⟨RX9, "isDigit", "(I)Z"⟩
abbrev cX9_blame : ByteArray := prog_11_method_31_code
def yX9_blame : MethodName := ⟨RX9, "blame", "(II)V"⟩
abbrev cX9_here : ByteArray := prog_11_method_32_code
def yX9_here : MethodName := ⟨RX9, "here", "()I"⟩
abbrev cX9_must : ByteArray := prog_11_method_33_code
def yX9_must : MethodName := ⟨RX9, "must", "(I)V"⟩
abbrev cX9_spells : ByteArray := prog_11_method_34_code
def yX9_spells : MethodName := ⟨RX9, "spells", "(IJI)Z"⟩
abbrev cX9_word : ByteArray := prog_11_method_35_code
def yX9_word : MethodName := ⟨RX9, "word", "(I)I"⟩
abbrev cX9_wordEnd : ByteArray := prog_11_method_36_code
def yX9_wordEnd : MethodName := ⟨RX9, "wordEnd", "()I"⟩
abbrev cX9_peek : ByteArray := prog_11_method_37_code
def yX9_peek : MethodName := ⟨RX9, "peek", "()I"⟩
abbrev cX9_number : ByteArray := prog_11_method_38_code
def yX9_number : MethodName := ⟨RX9, "number", "(I)I"⟩
abbrev cX9_name : ByteArray := prog_11_method_39_code
def yX9_name : MethodName := ⟨RX9, "name", "()V"⟩
abbrev cX9_add : ByteArray := prog_11_method_40_code
def yX9_add : MethodName := ⟨RX9, "add", "(I)V"⟩
abbrev cX9_test_ : ByteArray := prog_11_method_41_code
def yX9_test_ : MethodName := ⟨RX9, "test", "()V"⟩
abbrev cX9_nots : ByteArray := prog_11_method_42_code
def yX9_nots : MethodName := ⟨RX9, "nots", "()V"⟩
abbrev cX9_joins : ByteArray := prog_11_method_43_code
def yX9_joins : MethodName := ⟨RX9, "joins", "(I)V"⟩
abbrev cX9_opens : ByteArray := prog_11_method_44_code
def yX9_opens : MethodName := ⟨RX9, "opens", "(I)V"⟩
abbrev cX9_either : ByteArray := prog_11_method_45_code
def yX9_either : MethodName := ⟨RX9, "either", "()V"⟩
abbrev cX9_brackets : ByteArray := prog_11_method_46_code
def yX9_brackets : MethodName := ⟨RX9, "brackets", "()I"⟩
abbrev cX9_rule : ByteArray := prog_11_method_47_code
def yX9_rule : MethodName := ⟨RX9, "rule", "()I"⟩
abbrev cX9_full : ByteArray := prog_11_method_48_code
def yX9_full : MethodName := ⟨RX9, "full", "()I"⟩
abbrev cX9_reads : ByteArray := prog_11_method_49_code
def yX9_reads : MethodName := ⟨RX9, "reads", "()V"⟩
abbrev cX9_fault : ByteArray := prog_11_method_50_code
def yX9_fault : MethodName := ⟨RX9, "fault", "(I)I"⟩
abbrev cX9_shut : ByteArray := prog_11_method_51_code
def yX9_shut : MethodName := ⟨RX9, "shut", "(II)Z"⟩
abbrev cX9_tells : ByteArray := prog_11_method_52_code
def yX9_tells : MethodName := ⟨RX9, "tells", "(IIII)I"⟩
abbrev cX9_works : ByteArray := prog_11_method_53_code
def yX9_works : MethodName := ⟨RX9, "works", "(II)I"⟩
abbrev cX9_says : ByteArray := prog_11_method_54_code
def yX9_says : MethodName := ⟨RX9, "says", "(III)I"⟩
abbrev cX9_isSame : ByteArray := prog_11_method_55_code
def yX9_isSame : MethodName := ⟨RX9, "isSame", "(II)Z"⟩
abbrev cX9_isInForce : ByteArray := prog_11_method_56_code
def yX9_isInForce : MethodName := ⟨RX9, "isInForce", "(II)Z"⟩
abbrev cX9_name_ : ByteArray := prog_11_method_57_code
def yX9_name_ : MethodName := ⟨RX9, "name", "(III)I"⟩
abbrev cX9_step : ByteArray := prog_11_method_58_code
def yX9_step : MethodName := ⟨RX9, "step", "(III)Z"⟩
abbrev cX9_paid : ByteArray := prog_11_method_59_code
def yX9_paid : MethodName := ⟨RX9, "paid", "(I)J"⟩
abbrev cX9_blend : ByteArray := prog_11_method_60_code
def yX9_blend : MethodName := ⟨RX9, "blend", "(IIIII)I"⟩
abbrev cX9_parts : ByteArray := prog_11_method_61_code
def yX9_parts : MethodName := ⟨RX9, "parts", "(I)I"⟩
abbrev cX9_trace : ByteArray := prog_11_method_62_code
def yX9_trace : MethodName := ⟨RX9, "trace", "(I)I"⟩
abbrev cX9_found : ByteArray := prog_11_method_63_code
def yX9_found : MethodName := ⟨RX9, "found", "(I)I"⟩
abbrev cX9_whose : ByteArray := prog_11_method_64_code
def yX9_whose : MethodName := ⟨RX9, "whose", "(II)J"⟩
abbrev cX9_count : ByteArray := prog_11_method_65_code
def yX9_count : MethodName := ⟨RX9, "count", "(I)I"⟩
def RJx8e188 : String := "java/lang/Cloneable"
def TJx8e188 : u_T := fun k => match k with
  | _ => ("", "", "", false)
def tyJx8e188 : Nat → FieldType := fun k => match k with
  | _ => .int
abbrev wsJx8e1880 : List Cond := u_ws RJx8e188 TJx8e188 0
theorem nmJx8e188 : ∀ a, a < 0 → ∀ b, b < 0 → a ≠ b → (TJx8e188 a).2.1 ≠ (TJx8e188 b).2.1 := by decide +kernel
theorem tyJx8e188_ok : ∀ k, k < 0 → parseFieldDescriptor (TJx8e188 k).2.2.1 = some (tyJx8e188 k) := by decide +kernel
def RJ6 : String := "java/lang/Integer"
def TJ6 : u_T := fun k => match k with
  | _ => ("", "", "", false)
def tyJ6 : Nat → FieldType := fun k => match k with
  | _ => .int
abbrev wsJ60 : List Cond := u_ws RJ6 TJ6 0
theorem nmJ6 : ∀ a, a < 0 → ∀ b, b < 0 → a ≠ b → (TJ6 a).2.1 ≠ (TJ6 b).2.1 := by decide +kernel
theorem tyJ6_ok : ∀ k, k < 0 → parseFieldDescriptor (TJ6 k).2.2.1 = some (tyJ6 k) := by decide +kernel
abbrev cJ6_bitCount_0f7a4 : ByteArray := prog_13_method_49_code
def yJ6_bitCount_0f7a4 : MethodName := ⟨RJ6, "bitCount", "(I)I"⟩
def RJ9 : String := "java/lang/Math"
def TJ9 : u_T := fun k => match k with
  | _ => ("", "", "", false)
def tyJ9 : Nat → FieldType := fun k => match k with
  | _ => .int
abbrev wsJ90 : List Cond := u_ws RJ9 TJ9 0
theorem nmJ9 : ∀ a, a < 0 → ∀ b, b < 0 → a ≠ b → (TJ9 a).2.1 ≠ (TJ9 b).2.1 := by decide +kernel
theorem tyJ9_ok : ∀ k, k < 0 → parseFieldDescriptor (TJ9 k).2.2.1 = some (tyJ9 k) := by decide +kernel
abbrev cJ9_max_7cf53 : ByteArray := prog_14_method_65_code
def yJ9_max_7cf53 : MethodName := ⟨RJ9, "max", "(II)I"⟩
abbrev cJ9_min_7cf53 : ByteArray := prog_14_method_69_code
def yJ9_min_7cf53 : MethodName := ⟨RJ9, "min", "(II)I"⟩
def RJ0 : String := "java/lang/String"
def TJ0 : u_T := fun k => match k with
  | _ => ("", "", "", false)
def tyJ0 : Nat → FieldType := fun k => match k with
  | _ => .int
abbrev wsJ00 : List Cond := u_ws RJ0 TJ0 0
theorem nmJ0 : ∀ a, a < 0 → ∀ b, b < 0 → a ≠ b → (TJ0 a).2.1 ≠ (TJ0 b).2.1 := by decide +kernel
theorem tyJ0_ok : ∀ k, k < 0 → parseFieldDescriptor (TJ0 k).2.2.1 = some (tyJ0 k) := by decide +kernel
abbrev cJ0_length_8abf5 : ByteArray := prog_15_method_54_code
def yJ0_length_8abf5 : MethodName := ⟨RJ0, "length", "()I"⟩
abbrev cJ0_charAt_5068e : ByteArray := prog_15_method_56_code
def yJ0_charAt_5068e : MethodName := ⟨RJ0, "charAt", "(I)C"⟩
abbrev cJ0_coder_7d493 : ByteArray := prog_15_method_152_code
def yJ0_coder_7d493 : MethodName := ⟨RJ0, "coder", "()B"⟩
abbrev cJ0_isLatin1_aae02 : ByteArray := prog_15_method_154_code
def yJ0_isLatin1_aae02 : MethodName := ⟨RJ0, "isLatin1", "()Z"⟩
abbrev cJ0_checkIndex_df160 : ByteArray := prog_15_method_155_code
def yJ0_checkIndex_df160 : MethodName := ⟨RJ0, "checkIndex", "(II)V"⟩
def RJ1 : String := "java/lang/StringLatin1"
def TJ1 : u_T := fun k => match k with
  | _ => ("", "", "", false)
def tyJ1 : Nat → FieldType := fun k => match k with
  | _ => .int
abbrev wsJ10 : List Cond := u_ws RJ1 TJ1 0
theorem nmJ1 : ∀ a, a < 0 → ∀ b, b < 0 → a ≠ b → (TJ1 a).2.1 ≠ (TJ1 b).2.1 := by decide +kernel
theorem tyJ1_ok : ∀ k, k < 0 → parseFieldDescriptor (TJ1 k).2.2.1 = some (tyJ1 k) := by decide +kernel
abbrev cJ1_charAt_3b067 : ByteArray := prog_16_method_2_code
def yJ1_charAt_3b067 : MethodName := ⟨RJ1, "charAt", "([BI)C"⟩
def RJ2 : String := "java/lang/StringUTF16"
def TJ2 : u_T := fun k => match k with
  | _ => ("", "", "", false)
def tyJ2 : Nat → FieldType := fun k => match k with
  | _ => .int
abbrev wsJ20 : List Cond := u_ws RJ2 TJ2 0
theorem nmJ2 : ∀ a, a < 0 → ∀ b, b < 0 → a ≠ b → (TJ2 a).2.1 ≠ (TJ2 b).2.1 := by decide +kernel
theorem tyJ2_ok : ∀ k, k < 0 → parseFieldDescriptor (TJ2 k).2.2.1 = some (tyJ2 k) := by decide +kernel
abbrev cJ2_getChar_3b067 : ByteArray := prog_17_method_5_code
def yJ2_getChar_3b067 : MethodName := ⟨RJ2, "getChar", "([BI)C"⟩
abbrev cJ2_length_9d52b : ByteArray := prog_17_method_6_code
def yJ2_length_9d52b : MethodName := ⟨RJ2, "length", "([B)I"⟩
abbrev cJ2_charAt_3b067 : ByteArray := prog_17_method_83_code
def yJ2_charAt_3b067 : MethodName := ⟨RJ2, "charAt", "([BI)C"⟩
abbrev cJ2_checkIndex_2214a : ByteArray := prog_17_method_91_code
def yJ2_checkIndex_2214a : MethodName := ⟨RJ2, "checkIndex", "(I[B)V"⟩
def RJ10 : String := "java/lang/System"
def TJ10 : u_T := fun k => match k with
  | _ => ("", "", "", false)
def tyJ10 : Nat → FieldType := fun k => match k with
  | _ => .int
abbrev wsJ100 : List Cond := u_ws RJ10 TJ10 0
theorem nmJ10 : ∀ a, a < 0 → ∀ b, b < 0 → a ≠ b → (TJ10 a).2.1 ≠ (TJ10 b).2.1 := by decide +kernel
theorem tyJ10_ok : ∀ k, k < 0 → parseFieldDescriptor (TJ10 k).2.2.1 = some (tyJ10 k) := by decide +kernel
def RJ7 : String := "java/util/Arrays"
def TJ7 : u_T := fun k => match k with
  | _ => ("", "", "", false)
def tyJ7 : Nat → FieldType := fun k => match k with
  | _ => .int
abbrev wsJ70 : List Cond := u_ws RJ7 TJ7 0
theorem nmJ7 : ∀ a, a < 0 → ∀ b, b < 0 → a ≠ b → (TJ7 a).2.1 ≠ (TJ7 b).2.1 := by decide +kernel
theorem tyJ7_ok : ∀ k, k < 0 → parseFieldDescriptor (TJ7 k).2.2.1 = some (tyJ7 k) := by decide +kernel
abbrev cJ7_fill_53178 : ByteArray := prog_19_method_103_code
def yJ7_fill_53178 : MethodName := ⟨RJ7, "fill", "([II)V"⟩
abbrev cJ7_copyOf_59c91 : ByteArray := prog_19_method_123_code
def yJ7_copyOf_59c91 : MethodName := ⟨RJ7, "copyOf", "([II)[I"⟩
def RJ3 : String := "jdk/internal/util/Preconditions"
def TJ3 : u_T := fun k => match k with
  | _ => ("", "", "", false)
def tyJ3 : Nat → FieldType := fun k => match k with
  | _ => .int
abbrev wsJ30 : List Cond := u_ws RJ3 TJ3 0
theorem nmJ3 : ∀ a, a < 0 → ∀ b, b < 0 → a ≠ b → (TJ3 a).2.1 ≠ (TJ3 b).2.1 := by decide +kernel
theorem tyJ3_ok : ∀ k, k < 0 → parseFieldDescriptor (TJ3 k).2.2.1 = some (tyJ3 k) := by decide +kernel
abbrev cJ3_checkIndex_8e157 : ByteArray := prog_20_method_11_code
def yJ3_checkIndex_8e157 : MethodName := ⟨RJ3, "checkIndex", "(IILjava/util/function/BiFunction;)I"⟩
def RL : String := "HoneyHouseLaw"
abbrev cL_law : ByteArray := code
def yL_law : MethodName := ⟨RL, "law", "([I)Z"⟩
def wsX0_init : List Cond := .code yX0_init cX0_init 1 none :: ([.methodLink RX0 3 objectInit, .instanceMethod objectInit, .code objectInit ⟨#[0xb1]⟩ 1 none, .arrayClass .int, .fieldLink RX0 9 "HoneyHouse$Blender" "toldParts" "[I", .fieldLink RX0 15 "HoneyHouse$Blender" "tankNumbers" "[I", .fieldLink RX0 18 "HoneyHouse$Blender" "mostParts" "[I", .fieldLink RX0 21 "HoneyHouse$Blender" "waters" "[I", .fieldLink RX0 24 "HoneyHouse$Blender" "colours" "[I", .fieldLink RX0 27 "HoneyHouse$Blender" "prices" "[I", .fieldLink RX0 30 "HoneyHouse$Blender" "best" "[I"] ++ wsX00)
def wsJ7_fill_53178 : List Cond := .code yJ7_fill_53178 cJ7_fill_53178 4 none :: ([])
def wsX0_begin : List Cond := .code yX0_begin cX0_begin 5 none :: ([.fieldLink RX0 33 "HoneyHouse$Blender" "tankCount" "I", .fieldLink RX0 18 "HoneyHouse$Blender" "mostParts" "[I", .fieldLink RX0 43 "HoneyHouse$Blender" "partsInAll" "I", .fieldLink RX0 46 "HoneyHouse$Blender" "mostWater" "I", .fieldLink RX0 49 "HoneyHouse$Blender" "leastColour" "I", .fieldLink RX0 52 "HoneyHouse$Blender" "mostColour" "I", .methodLink RX0 37 yJ7_fill_53178, .static yJ7_fill_53178, .initialized RJ7, .code yJ7_fill_53178 cJ7_fill_53178 4 none] ++ wsX00)
def wsX0_addTank : List Cond := .code yX0_addTank cX0_addTank 6 none :: ([.fieldLink RX0 33 "HoneyHouse$Blender" "tankCount" "I", .fieldLink RX0 15 "HoneyHouse$Blender" "tankNumbers" "[I", .fieldLink RX0 18 "HoneyHouse$Blender" "mostParts" "[I", .fieldLink RX0 21 "HoneyHouse$Blender" "waters" "[I", .fieldLink RX0 24 "HoneyHouse$Blender" "colours" "[I", .fieldLink RX0 27 "HoneyHouse$Blender" "prices" "[I"] ++ wsX00)
def wsX0_isWithin : List Cond := .code yX0_isWithin cX0_isWithin 3 (some .boolean) :: ([.fieldLink RX0 46 "HoneyHouse$Blender" "mostWater" "I", .fieldLink RX0 49 "HoneyHouse$Blender" "leastColour" "I", .fieldLink RX0 52 "HoneyHouse$Blender" "mostColour" "I"] ++ wsX00)
def wsX0_tryWith : List Cond := .code yX0_tryWith cX0_tryWith 10 none :: ([.fieldLink RX0 43 "HoneyHouse$Blender" "partsInAll" "I", .fieldLink RX0 27 "HoneyHouse$Blender" "prices" "[I", .fieldLink RX0 21 "HoneyHouse$Blender" "waters" "[I", .fieldLink RX0 24 "HoneyHouse$Blender" "colours" "[I", .fieldLink RX0 18 "HoneyHouse$Blender" "mostParts" "[I", .methodLink RX0 71 Lib.Math.max.name, .static Lib.Math.max.name, .initialized "java/lang/Math", .code Lib.Math.max.name Lib.Math.max.code 2 (some .int), .methodLink RX0 58 Lib.Math.min.name, .static Lib.Math.min.name, .code Lib.Math.min.name Lib.Math.min.code 2 (some .int), .fieldLink RX0 55 "HoneyHouse$Blender" "bestPrice" "I", .fieldLink RX0 30 "HoneyHouse$Blender" "best" "[I", .methodLink RX0 74 yX0_isWithin, .instanceMethod yX0_isWithin, .selects RX0 yX0_isWithin yX0_isWithin, .initialized RX0, .code yX0_isWithin cX0_isWithin 3 (some .boolean), .fieldLink RX0 46 "HoneyHouse$Blender" "mostWater" "I", .fieldLink RX0 49 "HoneyHouse$Blender" "leastColour" "I", .fieldLink RX0 52 "HoneyHouse$Blender" "mostColour" "I"] ++ wsX00)
def wsX0_keepBest : List Cond := .code yX0_keepBest cX0_keepBest 3 none :: ([.fieldLink RX0 9 "HoneyHouse$Blender" "toldParts" "[I", .fieldLink RX0 33 "HoneyHouse$Blender" "tankCount" "I", .fieldLink RX0 15 "HoneyHouse$Blender" "tankNumbers" "[I", .fieldLink RX0 30 "HoneyHouse$Blender" "best" "[I", .fieldLink RX0 78 "HoneyHouse$Blender" "hasTold" "Z", .methodLink RX0 37 yJ7_fill_53178, .static yJ7_fill_53178, .initialized RJ7, .code yJ7_fill_53178 cJ7_fill_53178 4 none] ++ wsX00)
def wsX0_leastPrice_r1 : List Cond := [Cond.fieldLink RX0 55 "HoneyHouse$Blender" "bestPrice" "I", Cond.fieldLink RX0 18 "HoneyHouse$Blender" "mostParts" "[I", Cond.fieldLink RX0 43 "HoneyHouse$Blender" "partsInAll" "I", Cond.methodLink RX0 58 Lib.Math.min.name, Cond.static Lib.Math.min.name, Cond.initialized "java/lang/Math", Cond.code Lib.Math.min.name Lib.Math.min.code 2 (some .int), Cond.methodLink RX0 64 yX0_tryWith, Cond.instanceMethod yX0_tryWith, Cond.selects RX0 yX0_tryWith yX0_tryWith, Cond.initialized RX0, Cond.code yX0_tryWith cX0_tryWith 10 none, Cond.fieldLink RX0 27 "HoneyHouse$Blender" "prices" "[I", Cond.fieldLink RX0 21 "HoneyHouse$Blender" "waters" "[I", Cond.fieldLink RX0 24 "HoneyHouse$Blender" "colours" "[I", Cond.methodLink RX0 71 Lib.Math.max.name, Cond.static Lib.Math.max.name, Cond.code Lib.Math.max.name Lib.Math.max.code 2 (some .int), Cond.fieldLink RX0 30 "HoneyHouse$Blender" "best" "[I", Cond.methodLink RX0 74 yX0_isWithin, Cond.instanceMethod yX0_isWithin, Cond.selects RX0 yX0_isWithin yX0_isWithin, Cond.code yX0_isWithin cX0_isWithin 3 (some .boolean), Cond.fieldLink RX0 46 "HoneyHouse$Blender" "mostWater" "I"]
def wsX0_leastPrice_r2 : List Cond := [Cond.fieldLink RX0 49 "HoneyHouse$Blender" "leastColour" "I", Cond.fieldLink RX0 52 "HoneyHouse$Blender" "mostColour" "I", Cond.methodLink RX0 68 yX0_keepBest, Cond.instanceMethod yX0_keepBest, Cond.selects RX0 yX0_keepBest yX0_keepBest, Cond.code yX0_keepBest cX0_keepBest 3 none, Cond.fieldLink RX0 9 "HoneyHouse$Blender" "toldParts" "[I", Cond.fieldLink RX0 33 "HoneyHouse$Blender" "tankCount" "I", Cond.fieldLink RX0 15 "HoneyHouse$Blender" "tankNumbers" "[I", Cond.fieldLink RX0 78 "HoneyHouse$Blender" "hasTold" "Z", Cond.methodLink RX0 37 yJ7_fill_53178, Cond.static yJ7_fill_53178, Cond.initialized RJ7, Cond.code yJ7_fill_53178 cJ7_fill_53178 4 none]
def wsX0_leastPrice : List Cond := .code yX0_leastPrice cX0_leastPrice 3 (some .int) :: ((wsX0_leastPrice_r1 ++ wsX0_leastPrice_r2) ++ wsX00)
def wsX1_init : List Cond := .code yX1_init cX1_init 1 none :: ([.methodLink RX1 3 objectInit, .instanceMethod objectInit, .code objectInit ⟨#[0xb1]⟩ 1 none, .arrayClass .int, .fieldLink RX1 9 "HoneyHouse$Draught" "grams" "[I", .arrayClass .long, .fieldLink RX1 15 "HoneyHouse$Draught" "rests" "[J"] ++ wsX10)
def wsX7_gramsOf : List Cond := .code yX7_gramsOf cX7_gramsOf 2 (some .int) :: ([.fieldLink RX7 9 "HoneyHouse$Vessel" "grams" "[I"] ++ wsX70)
def wsX1_greatestRest : List Cond := .code yX1_greatestRest cX1_greatestRest 3 (some .int) :: ([.fieldLink RX1 15 "HoneyHouse$Draught" "rests" "[J"] ++ wsX10)
def wsX1_shareOut : List Cond := .code yX1_shareOut cX1_shareOut 7 none :: ([.fieldLink RX1 9 "HoneyHouse$Draught" "grams" "[I", .fieldLink RX1 29 "HoneyHouse$Vessel" "total" "I", .fieldLink RX1 15 "HoneyHouse$Draught" "rests" "[J", .constantLong RX1 56 (-1), .methodLink RX1 42 yJ7_fill_53178, .static yJ7_fill_53178, .initialized RJ7, .code yJ7_fill_53178 cJ7_fill_53178 4 none, .methodLink RX1 48 yX7_gramsOf, .instanceMethod yX7_gramsOf, .selects RX7 yX7_gramsOf yX7_gramsOf, .initialized RX7, .code yX7_gramsOf cX7_gramsOf 2 (some .int), .fieldLink RX7 9 "HoneyHouse$Vessel" "grams" "[I", .methodLink RX1 52 yX1_greatestRest, .instanceMethod yX1_greatestRest, .selects RX1 yX1_greatestRest yX1_greatestRest, .initialized RX1, .code yX1_greatestRest cX1_greatestRest 3 (some .int)] ++ wsX10 ++ wsX70)
def wsX7_addGrams : List Cond := .code yX7_addGrams cX7_addGrams 3 none :: ([.fieldLink RX7 9 "HoneyHouse$Vessel" "grams" "[I", .fieldLink RX7 22 "HoneyHouse$Vessel" "total" "I"] ++ wsX70)
def wsX1_drawFrom_r1 : List Cond := [Cond.fieldLink RX1 9 "HoneyHouse$Draught" "grams" "[I", Cond.fieldLink RX1 29 "HoneyHouse$Vessel" "total" "I", Cond.fieldLink RX1 33 "HoneyHouse$Vessel" "heat" "I", Cond.methodLink RX1 19 yX1_shareOut, Cond.instanceMethod yX1_shareOut, Cond.selects RX1 yX1_shareOut yX1_shareOut, Cond.initialized RX1, Cond.code yX1_shareOut cX1_shareOut 7 none, Cond.fieldLink RX1 15 "HoneyHouse$Draught" "rests" "[J", Cond.constantLong RX1 56 (-1), Cond.methodLink RX1 42 yJ7_fill_53178, Cond.static yJ7_fill_53178, Cond.initialized RJ7, Cond.code yJ7_fill_53178 cJ7_fill_53178 4 none, Cond.methodLink RX1 48 yX7_gramsOf, Cond.instanceMethod yX7_gramsOf, Cond.selects RX7 yX7_gramsOf yX7_gramsOf, Cond.initialized RX7, Cond.code yX7_gramsOf cX7_gramsOf 2 (some .int), Cond.fieldLink RX7 9 "HoneyHouse$Vessel" "grams" "[I", Cond.methodLink RX1 52 yX1_greatestRest, Cond.instanceMethod yX1_greatestRest, Cond.selects RX1 yX1_greatestRest yX1_greatestRest, Cond.code yX1_greatestRest cX1_greatestRest 3 (some .int)]
def wsX1_drawFrom_r2 : List Cond := [Cond.methodLink RX1 23 yX7_addGrams, Cond.instanceMethod yX7_addGrams, Cond.selects RX7 yX7_addGrams yX7_addGrams, Cond.code yX7_addGrams cX7_addGrams 3 none, Cond.fieldLink RX7 22 "HoneyHouse$Vessel" "total" "I"]
def wsX1_drawFrom : List Cond := .code yX1_drawFrom cX1_drawFrom 4 none :: ((wsX1_drawFrom_r1 ++ wsX1_drawFrom_r2) ++ wsX10 ++ wsX70)
def wsX1_fillInto : List Cond := .code yX1_fillInto cX1_fillInto 4 none :: ([.fieldLink RX1 29 "HoneyHouse$Vessel" "total" "I", .fieldLink RX1 33 "HoneyHouse$Vessel" "heat" "I", .methodLink RX1 36 Lib.Math.max.name, .static Lib.Math.max.name, .initialized "java/lang/Math", .code Lib.Math.max.name Lib.Math.max.code 2 (some .int), .fieldLink RX1 9 "HoneyHouse$Draught" "grams" "[I", .methodLink RX1 23 yX7_addGrams, .instanceMethod yX7_addGrams, .selects RX7 yX7_addGrams yX7_addGrams, .initialized RX7, .code yX7_addGrams cX7_addGrams 3 none, .fieldLink RX7 9 "HoneyHouse$Vessel" "grams" "[I", .fieldLink RX7 22 "HoneyHouse$Vessel" "total" "I"] ++ wsX70 ++ wsX10)
def wsX5_init : List Cond := .code yX5_init cX5_init 1 none :: ([.methodLink RX5 3 objectInit, .instanceMethod objectInit, .code objectInit ⟨#[0xb1]⟩ 1 none, .arrayClass .int, .fieldLink RX5 9 "HoneyHouse$Steps" "waters" "[I", .fieldLink RX5 15 "HoneyHouse$Steps" "prices" "[I"] ++ wsX50)
def wsX5_copyFrom : List Cond := .code yX5_copyFrom cX5_copyFrom 2 none :: ([.fieldLink RX5 9 "HoneyHouse$Steps" "waters" "[I", .methodLink RX5 18 arraycopyName, .native arraycopyName, .static arraycopyName, .initialized "java/lang/System", .fieldLink RX5 15 "HoneyHouse$Steps" "prices" "[I"] ++ wsX50)
def wsX5_payFor : List Cond := .code yX5_payFor cX5_payFor 4 (some .int) :: ([.fieldLink RX5 9 "HoneyHouse$Steps" "waters" "[I", .fieldLink RX5 15 "HoneyHouse$Steps" "prices" "[I", .constantLong RX5 24 (1000)] ++ wsX50)
def wsX2_init_r1 : List Cond := [Cond.methodLink RX2 3 objectInit, Cond.instanceMethod objectInit, Cond.code objectInit ⟨#[0xb1]⟩ 1 none, Cond.arrayClass .int, Cond.fieldLink RX2 9 "HoneyHouse$Lot" "low" "[I", Cond.fieldLink RX2 15 "HoneyHouse$Lot" "high" "[I", Cond.classLink RX2 18 RX5, Cond.instantiable RX5 2, Cond.initialized RX5, Cond.fieldLink RX2 21 "HoneyHouse$Lot" "steps" "LHoneyHouse$Steps;", Cond.fieldLink RX2 25 "HoneyHouse$Lot" "keeper" "I", Cond.fieldLink RX2 29 "HoneyHouse$Lot" "grams" "I", Cond.fieldLink RX2 32 "HoneyHouse$Lot" "water" "I", Cond.fieldLink RX2 35 "HoneyHouse$Lot" "colour" "I", Cond.fieldLink RX2 38 "HoneyHouse$Lot" "land" "I", Cond.fieldLink RX2 51 "HoneyHouse$Lot" "left" "I", Cond.fieldLink RX2 58 "HoneyHouse$Lot" "pay" "I", Cond.instanceMethod yX5_init, Cond.code yX5_init cX5_init 1 none, Cond.methodLink RX5 3 objectInit, Cond.fieldLink RX5 9 "HoneyHouse$Steps" "waters" "[I", Cond.fieldLink RX5 15 "HoneyHouse$Steps" "prices" "[I", Cond.methodLink RX2 41 yJ7_fill_53178, Cond.static yJ7_fill_53178]
def wsX2_init_r2 : List Cond := [Cond.initialized RJ7, Cond.code yJ7_fill_53178 cJ7_fill_53178 4 none, Cond.methodLink RX2 47 yX5_copyFrom, Cond.instanceMethod yX5_copyFrom, Cond.selects RX5 yX5_copyFrom yX5_copyFrom, Cond.code yX5_copyFrom cX5_copyFrom 2 none, Cond.methodLink RX5 18 arraycopyName, Cond.native arraycopyName, Cond.static arraycopyName, Cond.initialized "java/lang/System", Cond.methodLink RX2 54 yX5_payFor, Cond.instanceMethod yX5_payFor, Cond.selects RX5 yX5_payFor yX5_payFor, Cond.code yX5_payFor cX5_payFor 4 (some .int), Cond.constantLong RX5 24 (1000)]
def wsX2_init : List Cond := .code yX2_init cX2_init 7 none :: ((wsX2_init_r1 ++ wsX2_init_r2) ++ wsX20 ++ wsX50)
def wsX8_isIn : List Cond := .code yX8_isIn cX8_isIn 3 (some .boolean) :: ([])
def wsX8_isPollenLow : List Cond := .code yX8_isPollenLow cX8_isPollenLow 1 (some .boolean) :: ([.methodLink RX8 85 yX8_isIn, .static yX8_isIn, .initialized RX8, .code yX8_isIn cX8_isIn 3 (some .boolean)])
def wsX8_isPollenHigh : List Cond := .code yX8_isPollenHigh cX8_isPollenHigh 1 (some .boolean) :: ([.methodLink RX8 85 yX8_isIn, .static yX8_isIn, .initialized RX8, .code yX8_isIn cX8_isIn 3 (some .boolean)])
def wsX2_perGram : List Cond := .code yX2_perGram cX2_perGram 2 (some .int) :: ([.fieldLink RX2 32 "HoneyHouse$Lot" "water" "I", .fieldLink RX2 35 "HoneyHouse$Lot" "colour" "I", .fieldLink RX2 9 "HoneyHouse$Lot" "low" "[I", .fieldLink RX2 15 "HoneyHouse$Lot" "high" "[I", .fieldLink RX2 38 "HoneyHouse$Lot" "land" "I", .static yX8_isPollenLow, .initialized RX8, .code yX8_isPollenLow cX8_isPollenLow 1 (some .boolean), .methodLink RX8 85 yX8_isIn, .static yX8_isIn, .code yX8_isIn cX8_isIn 3 (some .boolean), .static yX8_isPollenHigh, .code yX8_isPollenHigh cX8_isPollenHigh 1 (some .boolean)] ++ wsX20)
def wsX3_init : List Cond := .code yX3_init cX3_init 5 none :: ([.methodLink RX3 1 objectInit, .instanceMethod objectInit, .code objectInit ⟨#[0xb1]⟩ 1 none, .fieldLink RX3 7 "HoneyHouse$Rule" "nameKey" "J", .fieldLink RX3 13 "HoneyHouse$Rule" "from" "I", .fieldLink RX3 17 "HoneyHouse$Rule" "code" "[I"] ++ wsX30)
def wsX6_init : List Cond := .code yX6_init cX6_init 1 none :: ([.methodLink RX6 3 objectInit, .instanceMethod objectInit, .code objectInit ⟨#[0xb1]⟩ 1 none, .arrayClass .int, .fieldLink RX6 9 "HoneyHouse$Tape" "bytes" "[I"] ++ wsX60)
def wsX4_init : List Cond := .code yX4_init cX4_init 1 none :: ([.methodLink RX4 3 objectInit, .instanceMethod objectInit, .code objectInit ⟨#[0xb1]⟩ 1 none, .classLink RX4 9 RX6, .instantiable RX6 5, .initialized RX6, .fieldLink RX4 12 "HoneyHouse$RuleReader" "tape" "LHoneyHouse$Tape;", .fieldLink RX4 18 "HoneyHouse$RuleReader" "faultPlace" "I", .arrayClass .int, .fieldLink RX4 22 "HoneyHouse$RuleReader" "codes" "[I", .instanceMethod yX6_init, .code yX6_init cX6_init 1 none, .methodLink RX6 3 objectInit, .fieldLink RX6 9 "HoneyHouse$Tape" "bytes" "[I"] ++ wsX60 ++ wsX40)
def wsX6_byteAt : List Cond := .code yX6_byteAt cX6_byteAt 2 (some .int) :: ([.fieldLink RX6 15 "HoneyHouse$Tape" "length" "I", .fieldLink RX6 9 "HoneyHouse$Tape" "bytes" "[I"] ++ wsX60)
def wsX6_kindOf : List Cond := .code yX6_kindOf cX6_kindOf 1 (some .int) :: ([])
def wsX6_advance : List Cond := .code yX6_advance cX6_advance 3 none :: ([.fieldLink RX6 19 "HoneyHouse$Tape" "end" "I", .fieldLink RX6 15 "HoneyHouse$Tape" "length" "I", .fieldLink RX6 32 "HoneyHouse$Tape" "start" "I", .fieldLink RX6 35 "HoneyHouse$Tape" "kind" "I", .methodLink RX6 25 yX6_byteAt, .instanceMethod yX6_byteAt, .selects RX6 yX6_byteAt yX6_byteAt, .initialized RX6, .code yX6_byteAt cX6_byteAt 2 (some .int), .fieldLink RX6 9 "HoneyHouse$Tape" "bytes" "[I", .methodLink RX6 29 yX6_kindOf, .static yX6_kindOf, .code yX6_kindOf cX6_kindOf 1 (some .int)] ++ wsX60)
def wsX6_rewind : List Cond := .code yX6_rewind cX6_rewind 1 none :: ([.fieldLink RX6 19 "HoneyHouse$Tape" "end" "I", .methodLink RX6 22 yX6_advance, .instanceMethod yX6_advance, .selects RX6 yX6_advance yX6_advance, .initialized RX6, .code yX6_advance cX6_advance 3 none, .fieldLink RX6 15 "HoneyHouse$Tape" "length" "I", .fieldLink RX6 32 "HoneyHouse$Tape" "start" "I", .fieldLink RX6 35 "HoneyHouse$Tape" "kind" "I", .methodLink RX6 25 yX6_byteAt, .instanceMethod yX6_byteAt, .selects RX6 yX6_byteAt yX6_byteAt, .code yX6_byteAt cX6_byteAt 2 (some .int), .fieldLink RX6 9 "HoneyHouse$Tape" "bytes" "[I", .methodLink RX6 29 yX6_kindOf, .static yX6_kindOf, .code yX6_kindOf cX6_kindOf 1 (some .int)] ++ wsX60)
def wsJ0_coder_7d493 : List Cond := .code yJ0_coder_7d493 cJ0_coder_7d493 1 (some .byte) :: ([.fieldLink RJ0 38 "java/lang/String" "COMPACT_STRINGS" "Z", .fieldLink RJ0 15 "java/lang/String" "coder" "B"])
def wsJ0_length_8abf5 : List Cond := .code yJ0_length_8abf5 cJ0_length_8abf5 1 (some .int) :: ([.fieldLink RJ0 9 "java/lang/String" "value" "[B", .methodLink RJ0 335 yJ0_coder_7d493, .instanceMethod yJ0_coder_7d493, .selects RJ0 yJ0_coder_7d493 yJ0_coder_7d493, .initialized RJ0, .code yJ0_coder_7d493 cJ0_coder_7d493 1 (some .byte), .fieldLink RJ0 38 "java/lang/String" "COMPACT_STRINGS" "Z", .fieldLink RJ0 15 "java/lang/String" "coder" "B"])
def wsJ0_isLatin1_aae02 : List Cond := .code yJ0_isLatin1_aae02 cJ0_isLatin1_aae02 1 (some .boolean) :: ([.fieldLink RJ0 38 "java/lang/String" "COMPACT_STRINGS" "Z", .fieldLink RJ0 15 "java/lang/String" "coder" "B"])
def wsJ3_checkIndex_8e157 : List Cond := .code yJ3_checkIndex_8e157 cJ3_checkIndex_8e157 3 (some .int) :: ([])
def wsJ0_checkIndex_df160 : List Cond := .code yJ0_checkIndex_df160 cJ0_checkIndex_df160 2 none :: ([.fieldLink RJ0 1053 "jdk/internal/util/Preconditions" "SIOOBE_FORMATTER" "Ljava/util/function/BiFunction;", .methodLink RJ0 1059 yJ3_checkIndex_8e157, .static yJ3_checkIndex_8e157, .initialized RJ3, .code yJ3_checkIndex_8e157 cJ3_checkIndex_8e157 3 (some .int)])
def wsJ1_charAt_3b067 : List Cond := .code yJ1_charAt_3b067 cJ1_charAt_3b067 2 (some .char) :: ([.methodLink RJ1 9 yJ0_checkIndex_df160, .static yJ0_checkIndex_df160, .initialized RJ0, .code yJ0_checkIndex_df160 cJ0_checkIndex_df160 2 none, .fieldLink RJ0 1053 "jdk/internal/util/Preconditions" "SIOOBE_FORMATTER" "Ljava/util/function/BiFunction;", .methodLink RJ0 1059 yJ3_checkIndex_8e157, .static yJ3_checkIndex_8e157, .initialized RJ3, .code yJ3_checkIndex_8e157 cJ3_checkIndex_8e157 3 (some .int)])
def wsJ2_length_9d52b : List Cond := .code yJ2_length_9d52b cJ2_length_9d52b 1 (some .int) :: ([])
def wsJ2_checkIndex_2214a : List Cond := .code yJ2_checkIndex_2214a cJ2_checkIndex_2214a 2 none :: ([.methodLink RJ2 48 yJ2_length_9d52b, .static yJ2_length_9d52b, .initialized RJ2, .code yJ2_length_9d52b cJ2_length_9d52b 1 (some .int), .methodLink RJ2 414 yJ0_checkIndex_df160, .static yJ0_checkIndex_df160, .initialized RJ0, .code yJ0_checkIndex_df160 cJ0_checkIndex_df160 2 none, .fieldLink RJ0 1053 "jdk/internal/util/Preconditions" "SIOOBE_FORMATTER" "Ljava/util/function/BiFunction;", .methodLink RJ0 1059 yJ3_checkIndex_8e157, .static yJ3_checkIndex_8e157, .initialized RJ3, .code yJ3_checkIndex_8e157 cJ3_checkIndex_8e157 3 (some .int)])
def wsJ2_getChar_3b067 : List Cond := .code yJ2_getChar_3b067 cJ2_getChar_3b067 2 (some .char) :: ([.fieldLink RJ2 44 "java/lang/StringUTF16" "$assertionsDisabled" "Z", .fieldLink RJ2 59 "java/lang/StringUTF16" "HI_BYTE_SHIFT" "I", .fieldLink RJ2 63 "java/lang/StringUTF16" "LO_BYTE_SHIFT" "I", .methodLink RJ2 48 yJ2_length_9d52b, .static yJ2_length_9d52b, .initialized RJ2, .code yJ2_length_9d52b cJ2_length_9d52b 1 (some .int)])
def wsJ2_charAt_3b067 : List Cond := .code yJ2_charAt_3b067 cJ2_charAt_3b067 2 (some .char) :: ([.methodLink RJ2 67 yJ2_checkIndex_2214a, .static yJ2_checkIndex_2214a, .initialized RJ2, .code yJ2_checkIndex_2214a cJ2_checkIndex_2214a 2 none, .methodLink RJ2 48 yJ2_length_9d52b, .static yJ2_length_9d52b, .code yJ2_length_9d52b cJ2_length_9d52b 1 (some .int), .methodLink RJ2 414 yJ0_checkIndex_df160, .static yJ0_checkIndex_df160, .initialized RJ0, .code yJ0_checkIndex_df160 cJ0_checkIndex_df160 2 none, .fieldLink RJ0 1053 "jdk/internal/util/Preconditions" "SIOOBE_FORMATTER" "Ljava/util/function/BiFunction;", .methodLink RJ0 1059 yJ3_checkIndex_8e157, .static yJ3_checkIndex_8e157, .initialized RJ3, .code yJ3_checkIndex_8e157 cJ3_checkIndex_8e157 3 (some .int), .methodLink RJ2 71 yJ2_getChar_3b067, .static yJ2_getChar_3b067, .code yJ2_getChar_3b067 cJ2_getChar_3b067 2 (some .char), .fieldLink RJ2 44 "java/lang/StringUTF16" "$assertionsDisabled" "Z", .fieldLink RJ2 59 "java/lang/StringUTF16" "HI_BYTE_SHIFT" "I", .fieldLink RJ2 63 "java/lang/StringUTF16" "LO_BYTE_SHIFT" "I"])
def wsJ0_charAt_5068e_r1 : List Cond := [Cond.fieldLink RJ0 9 "java/lang/String" "value" "[B", Cond.methodLink RJ0 492 yJ0_isLatin1_aae02, Cond.instanceMethod yJ0_isLatin1_aae02, Cond.selects RJ0 yJ0_isLatin1_aae02 yJ0_isLatin1_aae02, Cond.initialized RJ0, Cond.code yJ0_isLatin1_aae02 cJ0_isLatin1_aae02 1 (some .boolean), Cond.fieldLink RJ0 38 "java/lang/String" "COMPACT_STRINGS" "Z", Cond.fieldLink RJ0 15 "java/lang/String" "coder" "B", Cond.methodLink RJ0 495 yJ1_charAt_3b067, Cond.static yJ1_charAt_3b067, Cond.initialized RJ1, Cond.code yJ1_charAt_3b067 cJ1_charAt_3b067 2 (some .char), Cond.methodLink RJ1 9 yJ0_checkIndex_df160, Cond.static yJ0_checkIndex_df160, Cond.code yJ0_checkIndex_df160 cJ0_checkIndex_df160 2 none, Cond.fieldLink RJ0 1053 "jdk/internal/util/Preconditions" "SIOOBE_FORMATTER" "Ljava/util/function/BiFunction;", Cond.methodLink RJ0 1059 yJ3_checkIndex_8e157, Cond.static yJ3_checkIndex_8e157, Cond.initialized RJ3, Cond.code yJ3_checkIndex_8e157 cJ3_checkIndex_8e157 3 (some .int), Cond.methodLink RJ0 498 yJ2_charAt_3b067, Cond.static yJ2_charAt_3b067, Cond.initialized RJ2, Cond.code yJ2_charAt_3b067 cJ2_charAt_3b067 2 (some .char)]
def wsJ0_charAt_5068e_r2 : List Cond := [Cond.methodLink RJ2 67 yJ2_checkIndex_2214a, Cond.static yJ2_checkIndex_2214a, Cond.code yJ2_checkIndex_2214a cJ2_checkIndex_2214a 2 none, Cond.methodLink RJ2 48 yJ2_length_9d52b, Cond.static yJ2_length_9d52b, Cond.code yJ2_length_9d52b cJ2_length_9d52b 1 (some .int), Cond.methodLink RJ2 414 yJ0_checkIndex_df160, Cond.methodLink RJ2 71 yJ2_getChar_3b067, Cond.static yJ2_getChar_3b067, Cond.code yJ2_getChar_3b067 cJ2_getChar_3b067 2 (some .char), Cond.fieldLink RJ2 44 "java/lang/StringUTF16" "$assertionsDisabled" "Z", Cond.fieldLink RJ2 59 "java/lang/StringUTF16" "HI_BYTE_SHIFT" "I", Cond.fieldLink RJ2 63 "java/lang/StringUTF16" "LO_BYTE_SHIFT" "I"]
def wsJ0_charAt_5068e : List Cond := .code yJ0_charAt_5068e cJ0_charAt_5068e 2 (some .char) :: ((wsJ0_charAt_5068e_r1 ++ wsJ0_charAt_5068e_r2))
def wsX6_isWord_r1 : List Cond := [Cond.fieldLink RX6 35 "HoneyHouse$Tape" "kind" "I", Cond.fieldLink RX6 19 "HoneyHouse$Tape" "end" "I", Cond.fieldLink RX6 32 "HoneyHouse$Tape" "start" "I", Cond.methodLink RX6 38 yJ0_length_8abf5, Cond.instanceMethod yJ0_length_8abf5, Cond.selects RJ0 yJ0_length_8abf5 yJ0_length_8abf5, Cond.initialized RJ0, Cond.code yJ0_length_8abf5 cJ0_length_8abf5 1 (some .int), Cond.fieldLink RJ0 9 "java/lang/String" "value" "[B", Cond.methodLink RJ0 335 yJ0_coder_7d493, Cond.instanceMethod yJ0_coder_7d493, Cond.selects RJ0 yJ0_coder_7d493 yJ0_coder_7d493, Cond.code yJ0_coder_7d493 cJ0_coder_7d493 1 (some .byte), Cond.fieldLink RJ0 38 "java/lang/String" "COMPACT_STRINGS" "Z", Cond.fieldLink RJ0 15 "java/lang/String" "coder" "B", Cond.methodLink RX6 25 yX6_byteAt, Cond.instanceMethod yX6_byteAt, Cond.selects RX6 yX6_byteAt yX6_byteAt, Cond.initialized RX6, Cond.code yX6_byteAt cX6_byteAt 2 (some .int), Cond.fieldLink RX6 15 "HoneyHouse$Tape" "length" "I", Cond.fieldLink RX6 9 "HoneyHouse$Tape" "bytes" "[I", Cond.methodLink RX6 43 yJ0_charAt_5068e, Cond.instanceMethod yJ0_charAt_5068e]
def wsX6_isWord_r2 : List Cond := [Cond.selects RJ0 yJ0_charAt_5068e yJ0_charAt_5068e, Cond.code yJ0_charAt_5068e cJ0_charAt_5068e 2 (some .char), Cond.methodLink RJ0 492 yJ0_isLatin1_aae02, Cond.instanceMethod yJ0_isLatin1_aae02, Cond.selects RJ0 yJ0_isLatin1_aae02 yJ0_isLatin1_aae02, Cond.code yJ0_isLatin1_aae02 cJ0_isLatin1_aae02 1 (some .boolean), Cond.methodLink RJ0 495 yJ1_charAt_3b067, Cond.static yJ1_charAt_3b067, Cond.initialized RJ1, Cond.code yJ1_charAt_3b067 cJ1_charAt_3b067 2 (some .char), Cond.methodLink RJ1 9 yJ0_checkIndex_df160, Cond.static yJ0_checkIndex_df160, Cond.code yJ0_checkIndex_df160 cJ0_checkIndex_df160 2 none, Cond.fieldLink RJ0 1053 "jdk/internal/util/Preconditions" "SIOOBE_FORMATTER" "Ljava/util/function/BiFunction;", Cond.methodLink RJ0 1059 yJ3_checkIndex_8e157, Cond.static yJ3_checkIndex_8e157, Cond.initialized RJ3, Cond.code yJ3_checkIndex_8e157 cJ3_checkIndex_8e157 3 (some .int), Cond.methodLink RJ0 498 yJ2_charAt_3b067, Cond.static yJ2_charAt_3b067, Cond.initialized RJ2, Cond.code yJ2_charAt_3b067 cJ2_charAt_3b067 2 (some .char), Cond.methodLink RJ2 67 yJ2_checkIndex_2214a, Cond.static yJ2_checkIndex_2214a]
def wsX6_isWord_r3 : List Cond := [Cond.code yJ2_checkIndex_2214a cJ2_checkIndex_2214a 2 none, Cond.methodLink RJ2 48 yJ2_length_9d52b, Cond.static yJ2_length_9d52b, Cond.code yJ2_length_9d52b cJ2_length_9d52b 1 (some .int), Cond.methodLink RJ2 414 yJ0_checkIndex_df160, Cond.methodLink RJ2 71 yJ2_getChar_3b067, Cond.static yJ2_getChar_3b067, Cond.code yJ2_getChar_3b067 cJ2_getChar_3b067 2 (some .char), Cond.fieldLink RJ2 44 "java/lang/StringUTF16" "$assertionsDisabled" "Z", Cond.fieldLink RJ2 59 "java/lang/StringUTF16" "HI_BYTE_SHIFT" "I", Cond.fieldLink RJ2 63 "java/lang/StringUTF16" "LO_BYTE_SHIFT" "I"]
def wsX6_isWord : List Cond := .code yX6_isWord cX6_isWord 3 (some .boolean) :: ((wsX6_isWord_r1 ++ (wsX6_isWord_r2 ++ wsX6_isWord_r3)) ++ wsX60)
def wsX4_measureNamed_r1 : List Cond := [Cond.fieldLink RX4 12 "HoneyHouse$RuleReader" "tape" "LHoneyHouse$Tape;", Cond.methodLink RX4 99 yX6_isWord, Cond.instanceMethod yX6_isWord, Cond.selects RX6 yX6_isWord yX6_isWord, Cond.initialized RX6, Cond.code yX6_isWord cX6_isWord 3 (some .boolean), Cond.fieldLink RX6 35 "HoneyHouse$Tape" "kind" "I", Cond.fieldLink RX6 19 "HoneyHouse$Tape" "end" "I", Cond.fieldLink RX6 32 "HoneyHouse$Tape" "start" "I", Cond.methodLink RX6 38 yJ0_length_8abf5, Cond.instanceMethod yJ0_length_8abf5, Cond.selects RJ0 yJ0_length_8abf5 yJ0_length_8abf5, Cond.initialized RJ0, Cond.code yJ0_length_8abf5 cJ0_length_8abf5 1 (some .int), Cond.fieldLink RJ0 9 "java/lang/String" "value" "[B", Cond.methodLink RJ0 335 yJ0_coder_7d493, Cond.instanceMethod yJ0_coder_7d493, Cond.selects RJ0 yJ0_coder_7d493 yJ0_coder_7d493, Cond.code yJ0_coder_7d493 cJ0_coder_7d493 1 (some .byte), Cond.fieldLink RJ0 38 "java/lang/String" "COMPACT_STRINGS" "Z", Cond.fieldLink RJ0 15 "java/lang/String" "coder" "B", Cond.methodLink RX6 25 yX6_byteAt, Cond.instanceMethod yX6_byteAt, Cond.selects RX6 yX6_byteAt yX6_byteAt]
def wsX4_measureNamed_r2 : List Cond := [Cond.code yX6_byteAt cX6_byteAt 2 (some .int), Cond.fieldLink RX6 15 "HoneyHouse$Tape" "length" "I", Cond.fieldLink RX6 9 "HoneyHouse$Tape" "bytes" "[I", Cond.methodLink RX6 43 yJ0_charAt_5068e, Cond.instanceMethod yJ0_charAt_5068e, Cond.selects RJ0 yJ0_charAt_5068e yJ0_charAt_5068e, Cond.code yJ0_charAt_5068e cJ0_charAt_5068e 2 (some .char), Cond.methodLink RJ0 492 yJ0_isLatin1_aae02, Cond.instanceMethod yJ0_isLatin1_aae02, Cond.selects RJ0 yJ0_isLatin1_aae02 yJ0_isLatin1_aae02, Cond.code yJ0_isLatin1_aae02 cJ0_isLatin1_aae02 1 (some .boolean), Cond.methodLink RJ0 495 yJ1_charAt_3b067, Cond.static yJ1_charAt_3b067, Cond.initialized RJ1, Cond.code yJ1_charAt_3b067 cJ1_charAt_3b067 2 (some .char), Cond.methodLink RJ1 9 yJ0_checkIndex_df160, Cond.static yJ0_checkIndex_df160, Cond.code yJ0_checkIndex_df160 cJ0_checkIndex_df160 2 none, Cond.fieldLink RJ0 1053 "jdk/internal/util/Preconditions" "SIOOBE_FORMATTER" "Ljava/util/function/BiFunction;", Cond.methodLink RJ0 1059 yJ3_checkIndex_8e157, Cond.static yJ3_checkIndex_8e157, Cond.initialized RJ3, Cond.code yJ3_checkIndex_8e157 cJ3_checkIndex_8e157 3 (some .int), Cond.methodLink RJ0 498 yJ2_charAt_3b067]
def wsX4_measureNamed_r3 : List Cond := [Cond.static yJ2_charAt_3b067, Cond.initialized RJ2, Cond.code yJ2_charAt_3b067 cJ2_charAt_3b067 2 (some .char), Cond.methodLink RJ2 67 yJ2_checkIndex_2214a, Cond.static yJ2_checkIndex_2214a, Cond.code yJ2_checkIndex_2214a cJ2_checkIndex_2214a 2 none, Cond.methodLink RJ2 48 yJ2_length_9d52b, Cond.static yJ2_length_9d52b, Cond.code yJ2_length_9d52b cJ2_length_9d52b 1 (some .int), Cond.methodLink RJ2 414 yJ0_checkIndex_df160, Cond.methodLink RJ2 71 yJ2_getChar_3b067, Cond.static yJ2_getChar_3b067, Cond.code yJ2_getChar_3b067 cJ2_getChar_3b067 2 (some .char), Cond.fieldLink RJ2 44 "java/lang/StringUTF16" "$assertionsDisabled" "Z", Cond.fieldLink RJ2 59 "java/lang/StringUTF16" "HI_BYTE_SHIFT" "I", Cond.fieldLink RJ2 63 "java/lang/StringUTF16" "LO_BYTE_SHIFT" "I"]
def wsX4_measureNamed : List Cond := .code yX4_measureNamed cX4_measureNamed 1 (some .int) :: ((wsX4_measureNamed_r1 ++ (wsX4_measureNamed_r2 ++ wsX4_measureNamed_r3)) ++ wsX40 ++ wsX60)
def wsX4_isKeptWord_r1 : List Cond := [Cond.fieldLink RX4 12 "HoneyHouse$RuleReader" "tape" "LHoneyHouse$Tape;", Cond.methodLink RX4 99 yX6_isWord, Cond.instanceMethod yX6_isWord, Cond.selects RX6 yX6_isWord yX6_isWord, Cond.initialized RX6, Cond.code yX6_isWord cX6_isWord 3 (some .boolean), Cond.fieldLink RX6 35 "HoneyHouse$Tape" "kind" "I", Cond.fieldLink RX6 19 "HoneyHouse$Tape" "end" "I", Cond.fieldLink RX6 32 "HoneyHouse$Tape" "start" "I", Cond.methodLink RX6 38 yJ0_length_8abf5, Cond.instanceMethod yJ0_length_8abf5, Cond.selects RJ0 yJ0_length_8abf5 yJ0_length_8abf5, Cond.initialized RJ0, Cond.code yJ0_length_8abf5 cJ0_length_8abf5 1 (some .int), Cond.fieldLink RJ0 9 "java/lang/String" "value" "[B", Cond.methodLink RJ0 335 yJ0_coder_7d493, Cond.instanceMethod yJ0_coder_7d493, Cond.selects RJ0 yJ0_coder_7d493 yJ0_coder_7d493, Cond.code yJ0_coder_7d493 cJ0_coder_7d493 1 (some .byte), Cond.fieldLink RJ0 38 "java/lang/String" "COMPACT_STRINGS" "Z", Cond.fieldLink RJ0 15 "java/lang/String" "coder" "B", Cond.methodLink RX6 25 yX6_byteAt, Cond.instanceMethod yX6_byteAt, Cond.selects RX6 yX6_byteAt yX6_byteAt]
def wsX4_isKeptWord_r2 : List Cond := [Cond.code yX6_byteAt cX6_byteAt 2 (some .int), Cond.fieldLink RX6 15 "HoneyHouse$Tape" "length" "I", Cond.fieldLink RX6 9 "HoneyHouse$Tape" "bytes" "[I", Cond.methodLink RX6 43 yJ0_charAt_5068e, Cond.instanceMethod yJ0_charAt_5068e, Cond.selects RJ0 yJ0_charAt_5068e yJ0_charAt_5068e, Cond.code yJ0_charAt_5068e cJ0_charAt_5068e 2 (some .char), Cond.methodLink RJ0 492 yJ0_isLatin1_aae02, Cond.instanceMethod yJ0_isLatin1_aae02, Cond.selects RJ0 yJ0_isLatin1_aae02 yJ0_isLatin1_aae02, Cond.code yJ0_isLatin1_aae02 cJ0_isLatin1_aae02 1 (some .boolean), Cond.methodLink RJ0 495 yJ1_charAt_3b067, Cond.static yJ1_charAt_3b067, Cond.initialized RJ1, Cond.code yJ1_charAt_3b067 cJ1_charAt_3b067 2 (some .char), Cond.methodLink RJ1 9 yJ0_checkIndex_df160, Cond.static yJ0_checkIndex_df160, Cond.code yJ0_checkIndex_df160 cJ0_checkIndex_df160 2 none, Cond.fieldLink RJ0 1053 "jdk/internal/util/Preconditions" "SIOOBE_FORMATTER" "Ljava/util/function/BiFunction;", Cond.methodLink RJ0 1059 yJ3_checkIndex_8e157, Cond.static yJ3_checkIndex_8e157, Cond.initialized RJ3, Cond.code yJ3_checkIndex_8e157 cJ3_checkIndex_8e157 3 (some .int), Cond.methodLink RJ0 498 yJ2_charAt_3b067]
def wsX4_isKeptWord_r3 : List Cond := [Cond.static yJ2_charAt_3b067, Cond.initialized RJ2, Cond.code yJ2_charAt_3b067 cJ2_charAt_3b067 2 (some .char), Cond.methodLink RJ2 67 yJ2_checkIndex_2214a, Cond.static yJ2_checkIndex_2214a, Cond.code yJ2_checkIndex_2214a cJ2_checkIndex_2214a 2 none, Cond.methodLink RJ2 48 yJ2_length_9d52b, Cond.static yJ2_length_9d52b, Cond.code yJ2_length_9d52b cJ2_length_9d52b 1 (some .int), Cond.methodLink RJ2 414 yJ0_checkIndex_df160, Cond.methodLink RJ2 71 yJ2_getChar_3b067, Cond.static yJ2_getChar_3b067, Cond.code yJ2_getChar_3b067 cJ2_getChar_3b067 2 (some .char), Cond.fieldLink RJ2 44 "java/lang/StringUTF16" "$assertionsDisabled" "Z", Cond.fieldLink RJ2 59 "java/lang/StringUTF16" "HI_BYTE_SHIFT" "I", Cond.fieldLink RJ2 63 "java/lang/StringUTF16" "LO_BYTE_SHIFT" "I", Cond.methodLink RX4 110 yX4_measureNamed, Cond.instanceMethod yX4_measureNamed, Cond.selects RX4 yX4_measureNamed yX4_measureNamed, Cond.initialized RX4, Cond.code yX4_measureNamed cX4_measureNamed 1 (some .int)]
def wsX4_isKeptWord : List Cond := .code yX4_isKeptWord cX4_isKeptWord 1 (some .boolean) :: ((wsX4_isKeptWord_r1 ++ (wsX4_isKeptWord_r2 ++ wsX4_isKeptWord_r3)) ++ wsX40 ++ wsX60)
def wsX4_failAt : List Cond := .code yX4_failAt cX4_failAt 3 (some .boolean) :: ([.fieldLink RX4 26 "HoneyHouse$RuleReader" "faultKind" "I", .fieldLink RX4 18 "HoneyHouse$RuleReader" "faultPlace" "I"] ++ wsX40)
def wsX4_failHere : List Cond := .code yX4_failHere cX4_failHere 1 (some .boolean) :: ([.fieldLink RX4 12 "HoneyHouse$RuleReader" "tape" "LHoneyHouse$Tape;", .fieldLink RX4 73 "HoneyHouse$Tape" "start" "I", .methodLink RX4 76 yX4_failAt, .instanceMethod yX4_failAt, .selects RX4 yX4_failAt yX4_failAt, .initialized RX4, .code yX4_failAt cX4_failAt 3 (some .boolean), .fieldLink RX4 26 "HoneyHouse$RuleReader" "faultKind" "I", .fieldLink RX4 18 "HoneyHouse$RuleReader" "faultPlace" "I"] ++ wsX40 ++ wsX60)
def wsX6_wordKey : List Cond := .code yX6_wordKey cX6_wordKey 4 (some .long) :: ([.fieldLink RX6 32 "HoneyHouse$Tape" "start" "I", .fieldLink RX6 19 "HoneyHouse$Tape" "end" "I", .constantLong RX6 47 (97), .methodLink RX6 25 yX6_byteAt, .instanceMethod yX6_byteAt, .selects RX6 yX6_byteAt yX6_byteAt, .initialized RX6, .code yX6_byteAt cX6_byteAt 2 (some .int), .fieldLink RX6 15 "HoneyHouse$Tape" "length" "I", .fieldLink RX6 9 "HoneyHouse$Tape" "bytes" "[I"] ++ wsX60)
def wsX4_readName_r1 : List Cond := [Cond.fieldLink RX4 12 "HoneyHouse$RuleReader" "tape" "LHoneyHouse$Tape;", Cond.fieldLink RX4 61 "HoneyHouse$Tape" "kind" "I", Cond.fieldLink RX4 83 "HoneyHouse$Tape" "end" "I", Cond.fieldLink RX4 73 "HoneyHouse$Tape" "start" "I", Cond.fieldLink RX4 90 "HoneyHouse$RuleReader" "nameKey" "J", Cond.methodLink RX4 80 yX4_isKeptWord, Cond.instanceMethod yX4_isKeptWord, Cond.selects RX4 yX4_isKeptWord yX4_isKeptWord, Cond.initialized RX4, Cond.code yX4_isKeptWord cX4_isKeptWord 1 (some .boolean), Cond.methodLink RX4 99 yX6_isWord, Cond.instanceMethod yX6_isWord, Cond.selects RX6 yX6_isWord yX6_isWord, Cond.initialized RX6, Cond.code yX6_isWord cX6_isWord 3 (some .boolean), Cond.fieldLink RX6 35 "HoneyHouse$Tape" "kind" "I", Cond.fieldLink RX6 19 "HoneyHouse$Tape" "end" "I", Cond.fieldLink RX6 32 "HoneyHouse$Tape" "start" "I", Cond.methodLink RX6 38 yJ0_length_8abf5, Cond.instanceMethod yJ0_length_8abf5, Cond.selects RJ0 yJ0_length_8abf5 yJ0_length_8abf5, Cond.initialized RJ0, Cond.code yJ0_length_8abf5 cJ0_length_8abf5 1 (some .int), Cond.fieldLink RJ0 9 "java/lang/String" "value" "[B"]
def wsX4_readName_r2 : List Cond := [Cond.methodLink RJ0 335 yJ0_coder_7d493, Cond.instanceMethod yJ0_coder_7d493, Cond.selects RJ0 yJ0_coder_7d493 yJ0_coder_7d493, Cond.code yJ0_coder_7d493 cJ0_coder_7d493 1 (some .byte), Cond.fieldLink RJ0 38 "java/lang/String" "COMPACT_STRINGS" "Z", Cond.fieldLink RJ0 15 "java/lang/String" "coder" "B", Cond.methodLink RX6 25 yX6_byteAt, Cond.instanceMethod yX6_byteAt, Cond.selects RX6 yX6_byteAt yX6_byteAt, Cond.code yX6_byteAt cX6_byteAt 2 (some .int), Cond.fieldLink RX6 15 "HoneyHouse$Tape" "length" "I", Cond.fieldLink RX6 9 "HoneyHouse$Tape" "bytes" "[I", Cond.methodLink RX6 43 yJ0_charAt_5068e, Cond.instanceMethod yJ0_charAt_5068e, Cond.selects RJ0 yJ0_charAt_5068e yJ0_charAt_5068e, Cond.code yJ0_charAt_5068e cJ0_charAt_5068e 2 (some .char), Cond.methodLink RJ0 492 yJ0_isLatin1_aae02, Cond.instanceMethod yJ0_isLatin1_aae02, Cond.selects RJ0 yJ0_isLatin1_aae02 yJ0_isLatin1_aae02, Cond.code yJ0_isLatin1_aae02 cJ0_isLatin1_aae02 1 (some .boolean), Cond.methodLink RJ0 495 yJ1_charAt_3b067, Cond.static yJ1_charAt_3b067, Cond.initialized RJ1, Cond.code yJ1_charAt_3b067 cJ1_charAt_3b067 2 (some .char)]
def wsX4_readName_r3 : List Cond := [Cond.methodLink RJ1 9 yJ0_checkIndex_df160, Cond.static yJ0_checkIndex_df160, Cond.code yJ0_checkIndex_df160 cJ0_checkIndex_df160 2 none, Cond.fieldLink RJ0 1053 "jdk/internal/util/Preconditions" "SIOOBE_FORMATTER" "Ljava/util/function/BiFunction;", Cond.methodLink RJ0 1059 yJ3_checkIndex_8e157, Cond.static yJ3_checkIndex_8e157, Cond.initialized RJ3, Cond.code yJ3_checkIndex_8e157 cJ3_checkIndex_8e157 3 (some .int), Cond.methodLink RJ0 498 yJ2_charAt_3b067, Cond.static yJ2_charAt_3b067, Cond.initialized RJ2, Cond.code yJ2_charAt_3b067 cJ2_charAt_3b067 2 (some .char), Cond.methodLink RJ2 67 yJ2_checkIndex_2214a, Cond.static yJ2_checkIndex_2214a, Cond.code yJ2_checkIndex_2214a cJ2_checkIndex_2214a 2 none, Cond.methodLink RJ2 48 yJ2_length_9d52b, Cond.static yJ2_length_9d52b, Cond.code yJ2_length_9d52b cJ2_length_9d52b 1 (some .int), Cond.methodLink RJ2 414 yJ0_checkIndex_df160, Cond.methodLink RJ2 71 yJ2_getChar_3b067, Cond.static yJ2_getChar_3b067, Cond.code yJ2_getChar_3b067 cJ2_getChar_3b067 2 (some .char), Cond.fieldLink RJ2 44 "java/lang/StringUTF16" "$assertionsDisabled" "Z", Cond.fieldLink RJ2 59 "java/lang/StringUTF16" "HI_BYTE_SHIFT" "I"]
def wsX4_readName_r4 : List Cond := [Cond.fieldLink RJ2 63 "java/lang/StringUTF16" "LO_BYTE_SHIFT" "I", Cond.methodLink RX4 110 yX4_measureNamed, Cond.instanceMethod yX4_measureNamed, Cond.selects RX4 yX4_measureNamed yX4_measureNamed, Cond.code yX4_measureNamed cX4_measureNamed 1 (some .int), Cond.methodLink RX4 64 yX4_failHere, Cond.instanceMethod yX4_failHere, Cond.selects RX4 yX4_failHere yX4_failHere, Cond.code yX4_failHere cX4_failHere 1 (some .boolean), Cond.methodLink RX4 76 yX4_failAt, Cond.instanceMethod yX4_failAt, Cond.selects RX4 yX4_failAt yX4_failAt, Cond.code yX4_failAt cX4_failAt 3 (some .boolean), Cond.fieldLink RX4 26 "HoneyHouse$RuleReader" "faultKind" "I", Cond.fieldLink RX4 18 "HoneyHouse$RuleReader" "faultPlace" "I", Cond.methodLink RX4 86 yX6_wordKey, Cond.instanceMethod yX6_wordKey, Cond.selects RX6 yX6_wordKey yX6_wordKey, Cond.code yX6_wordKey cX6_wordKey 4 (some .long), Cond.constantLong RX6 47 (97), Cond.methodLink RX4 94 yX6_advance, Cond.instanceMethod yX6_advance, Cond.selects RX6 yX6_advance yX6_advance, Cond.code yX6_advance cX6_advance 3 none]
def wsX4_readName_r5 : List Cond := [Cond.methodLink RX6 29 yX6_kindOf, Cond.static yX6_kindOf, Cond.code yX6_kindOf cX6_kindOf 1 (some .int)]
def wsX4_readName : List Cond := .code yX4_readName cX4_readName 1 (some .boolean) :: ((wsX4_readName_r1 ++ (wsX4_readName_r2 ++ (wsX4_readName_r3 ++ (wsX4_readName_r4 ++ wsX4_readName_r5)))) ++ wsX40 ++ wsX60)
def wsX6_isByte : List Cond := .code yX6_isByte cX6_isByte 2 (some .boolean) :: ([.fieldLink RX6 35 "HoneyHouse$Tape" "kind" "I", .fieldLink RX6 32 "HoneyHouse$Tape" "start" "I", .methodLink RX6 25 yX6_byteAt, .instanceMethod yX6_byteAt, .selects RX6 yX6_byteAt yX6_byteAt, .initialized RX6, .code yX6_byteAt cX6_byteAt 2 (some .int), .fieldLink RX6 15 "HoneyHouse$Tape" "length" "I", .fieldLink RX6 9 "HoneyHouse$Tape" "bytes" "[I"] ++ wsX60)
def wsX4_readByte_r1 : List Cond := [Cond.fieldLink RX4 12 "HoneyHouse$RuleReader" "tape" "LHoneyHouse$Tape;", Cond.methodLink RX4 114 yX6_isByte, Cond.instanceMethod yX6_isByte, Cond.selects RX6 yX6_isByte yX6_isByte, Cond.initialized RX6, Cond.code yX6_isByte cX6_isByte 2 (some .boolean), Cond.fieldLink RX6 35 "HoneyHouse$Tape" "kind" "I", Cond.fieldLink RX6 32 "HoneyHouse$Tape" "start" "I", Cond.methodLink RX6 25 yX6_byteAt, Cond.instanceMethod yX6_byteAt, Cond.selects RX6 yX6_byteAt yX6_byteAt, Cond.code yX6_byteAt cX6_byteAt 2 (some .int), Cond.fieldLink RX6 15 "HoneyHouse$Tape" "length" "I", Cond.fieldLink RX6 9 "HoneyHouse$Tape" "bytes" "[I", Cond.methodLink RX4 64 yX4_failHere, Cond.instanceMethod yX4_failHere, Cond.selects RX4 yX4_failHere yX4_failHere, Cond.initialized RX4, Cond.code yX4_failHere cX4_failHere 1 (some .boolean), Cond.fieldLink RX4 73 "HoneyHouse$Tape" "start" "I", Cond.methodLink RX4 76 yX4_failAt, Cond.instanceMethod yX4_failAt, Cond.selects RX4 yX4_failAt yX4_failAt, Cond.code yX4_failAt cX4_failAt 3 (some .boolean)]
def wsX4_readByte_r2 : List Cond := [Cond.fieldLink RX4 26 "HoneyHouse$RuleReader" "faultKind" "I", Cond.fieldLink RX4 18 "HoneyHouse$RuleReader" "faultPlace" "I", Cond.methodLink RX4 94 yX6_advance, Cond.instanceMethod yX6_advance, Cond.selects RX6 yX6_advance yX6_advance, Cond.code yX6_advance cX6_advance 3 none, Cond.fieldLink RX6 19 "HoneyHouse$Tape" "end" "I", Cond.methodLink RX6 29 yX6_kindOf, Cond.static yX6_kindOf, Cond.code yX6_kindOf cX6_kindOf 1 (some .int)]
def wsX4_readByte : List Cond := .code yX4_readByte cX4_readByte 2 (some .boolean) :: ((wsX4_readByte_r1 ++ wsX4_readByte_r2) ++ wsX40 ++ wsX60)
def wsX4_isAndOr_r1 : List Cond := [Cond.fieldLink RX4 12 "HoneyHouse$RuleReader" "tape" "LHoneyHouse$Tape;", Cond.methodLink RX4 99 yX6_isWord, Cond.instanceMethod yX6_isWord, Cond.selects RX6 yX6_isWord yX6_isWord, Cond.initialized RX6, Cond.code yX6_isWord cX6_isWord 3 (some .boolean), Cond.fieldLink RX6 35 "HoneyHouse$Tape" "kind" "I", Cond.fieldLink RX6 19 "HoneyHouse$Tape" "end" "I", Cond.fieldLink RX6 32 "HoneyHouse$Tape" "start" "I", Cond.methodLink RX6 38 yJ0_length_8abf5, Cond.instanceMethod yJ0_length_8abf5, Cond.selects RJ0 yJ0_length_8abf5 yJ0_length_8abf5, Cond.initialized RJ0, Cond.code yJ0_length_8abf5 cJ0_length_8abf5 1 (some .int), Cond.fieldLink RJ0 9 "java/lang/String" "value" "[B", Cond.methodLink RJ0 335 yJ0_coder_7d493, Cond.instanceMethod yJ0_coder_7d493, Cond.selects RJ0 yJ0_coder_7d493 yJ0_coder_7d493, Cond.code yJ0_coder_7d493 cJ0_coder_7d493 1 (some .byte), Cond.fieldLink RJ0 38 "java/lang/String" "COMPACT_STRINGS" "Z", Cond.fieldLink RJ0 15 "java/lang/String" "coder" "B", Cond.methodLink RX6 25 yX6_byteAt, Cond.instanceMethod yX6_byteAt, Cond.selects RX6 yX6_byteAt yX6_byteAt]
def wsX4_isAndOr_r2 : List Cond := [Cond.code yX6_byteAt cX6_byteAt 2 (some .int), Cond.fieldLink RX6 15 "HoneyHouse$Tape" "length" "I", Cond.fieldLink RX6 9 "HoneyHouse$Tape" "bytes" "[I", Cond.methodLink RX6 43 yJ0_charAt_5068e, Cond.instanceMethod yJ0_charAt_5068e, Cond.selects RJ0 yJ0_charAt_5068e yJ0_charAt_5068e, Cond.code yJ0_charAt_5068e cJ0_charAt_5068e 2 (some .char), Cond.methodLink RJ0 492 yJ0_isLatin1_aae02, Cond.instanceMethod yJ0_isLatin1_aae02, Cond.selects RJ0 yJ0_isLatin1_aae02 yJ0_isLatin1_aae02, Cond.code yJ0_isLatin1_aae02 cJ0_isLatin1_aae02 1 (some .boolean), Cond.methodLink RJ0 495 yJ1_charAt_3b067, Cond.static yJ1_charAt_3b067, Cond.initialized RJ1, Cond.code yJ1_charAt_3b067 cJ1_charAt_3b067 2 (some .char), Cond.methodLink RJ1 9 yJ0_checkIndex_df160, Cond.static yJ0_checkIndex_df160, Cond.code yJ0_checkIndex_df160 cJ0_checkIndex_df160 2 none, Cond.fieldLink RJ0 1053 "jdk/internal/util/Preconditions" "SIOOBE_FORMATTER" "Ljava/util/function/BiFunction;", Cond.methodLink RJ0 1059 yJ3_checkIndex_8e157, Cond.static yJ3_checkIndex_8e157, Cond.initialized RJ3, Cond.code yJ3_checkIndex_8e157 cJ3_checkIndex_8e157 3 (some .int), Cond.methodLink RJ0 498 yJ2_charAt_3b067]
def wsX4_isAndOr_r3 : List Cond := [Cond.static yJ2_charAt_3b067, Cond.initialized RJ2, Cond.code yJ2_charAt_3b067 cJ2_charAt_3b067 2 (some .char), Cond.methodLink RJ2 67 yJ2_checkIndex_2214a, Cond.static yJ2_checkIndex_2214a, Cond.code yJ2_checkIndex_2214a cJ2_checkIndex_2214a 2 none, Cond.methodLink RJ2 48 yJ2_length_9d52b, Cond.static yJ2_length_9d52b, Cond.code yJ2_length_9d52b cJ2_length_9d52b 1 (some .int), Cond.methodLink RJ2 414 yJ0_checkIndex_df160, Cond.methodLink RJ2 71 yJ2_getChar_3b067, Cond.static yJ2_getChar_3b067, Cond.code yJ2_getChar_3b067 cJ2_getChar_3b067 2 (some .char), Cond.fieldLink RJ2 44 "java/lang/StringUTF16" "$assertionsDisabled" "Z", Cond.fieldLink RJ2 59 "java/lang/StringUTF16" "HI_BYTE_SHIFT" "I", Cond.fieldLink RJ2 63 "java/lang/StringUTF16" "LO_BYTE_SHIFT" "I"]
def wsX4_isAndOr : List Cond := .code yX4_isAndOr cX4_isAndOr 1 (some .boolean) :: ((wsX4_isAndOr_r1 ++ (wsX4_isAndOr_r2 ++ wsX4_isAndOr_r3)) ++ wsX40 ++ wsX60)
def wsX4_addCode : List Cond := .code yX4_addCode cX4_addCode 2 none :: ([.fieldLink RX4 29 "HoneyHouse$RuleReader" "codeCount" "I", .fieldLink RX4 22 "HoneyHouse$RuleReader" "codes" "[I"] ++ wsX40)
def wsX6_numberValue : List Cond := .code yX6_numberValue cX6_numberValue 3 (some .int) :: ([.fieldLink RX6 32 "HoneyHouse$Tape" "start" "I", .fieldLink RX6 19 "HoneyHouse$Tape" "end" "I", .methodLink RX6 25 yX6_byteAt, .instanceMethod yX6_byteAt, .selects RX6 yX6_byteAt yX6_byteAt, .initialized RX6, .code yX6_byteAt cX6_byteAt 2 (some .int), .fieldLink RX6 15 "HoneyHouse$Tape" "length" "I", .fieldLink RX6 9 "HoneyHouse$Tape" "bytes" "[I"] ++ wsX60)
def wsX4_readNumber_r1 : List Cond := [Cond.fieldLink RX4 12 "HoneyHouse$RuleReader" "tape" "LHoneyHouse$Tape;", Cond.fieldLink RX4 61 "HoneyHouse$Tape" "kind" "I", Cond.fieldLink RX4 83 "HoneyHouse$Tape" "end" "I", Cond.fieldLink RX4 73 "HoneyHouse$Tape" "start" "I", Cond.fieldLink RX4 56 "HoneyHouse$RuleReader" "value" "I", Cond.methodLink RX4 64 yX4_failHere, Cond.instanceMethod yX4_failHere, Cond.selects RX4 yX4_failHere yX4_failHere, Cond.initialized RX4, Cond.code yX4_failHere cX4_failHere 1 (some .boolean), Cond.methodLink RX4 76 yX4_failAt, Cond.instanceMethod yX4_failAt, Cond.selects RX4 yX4_failAt yX4_failAt, Cond.code yX4_failAt cX4_failAt 3 (some .boolean), Cond.fieldLink RX4 26 "HoneyHouse$RuleReader" "faultKind" "I", Cond.fieldLink RX4 18 "HoneyHouse$RuleReader" "faultPlace" "I", Cond.methodLink RX4 117 yX6_numberValue, Cond.instanceMethod yX6_numberValue, Cond.selects RX6 yX6_numberValue yX6_numberValue, Cond.initialized RX6, Cond.code yX6_numberValue cX6_numberValue 3 (some .int), Cond.fieldLink RX6 32 "HoneyHouse$Tape" "start" "I", Cond.fieldLink RX6 19 "HoneyHouse$Tape" "end" "I", Cond.methodLink RX6 25 yX6_byteAt]
def wsX4_readNumber_r2 : List Cond := [Cond.instanceMethod yX6_byteAt, Cond.selects RX6 yX6_byteAt yX6_byteAt, Cond.code yX6_byteAt cX6_byteAt 2 (some .int), Cond.fieldLink RX6 15 "HoneyHouse$Tape" "length" "I", Cond.fieldLink RX6 9 "HoneyHouse$Tape" "bytes" "[I", Cond.methodLink RX4 94 yX6_advance, Cond.instanceMethod yX6_advance, Cond.selects RX6 yX6_advance yX6_advance, Cond.code yX6_advance cX6_advance 3 none, Cond.fieldLink RX6 35 "HoneyHouse$Tape" "kind" "I", Cond.methodLink RX6 29 yX6_kindOf, Cond.static yX6_kindOf, Cond.code yX6_kindOf cX6_kindOf 1 (some .int)]
def wsX4_readNumber : List Cond := .code yX4_readNumber cX4_readNumber 2 (some .boolean) :: ((wsX4_readNumber_r1 ++ wsX4_readNumber_r2) ++ wsX40 ++ wsX60)
def wsX4_testCode : List Cond := .code yX4_testCode cX4_testCode 3 (some .int) :: ([])
def wsX4_readTest_r1 : List Cond := [Cond.fieldLink RX4 12 "HoneyHouse$RuleReader" "tape" "LHoneyHouse$Tape;", Cond.fieldLink RX4 56 "HoneyHouse$RuleReader" "value" "I", Cond.methodLink RX4 110 yX4_measureNamed, Cond.instanceMethod yX4_measureNamed, Cond.selects RX4 yX4_measureNamed yX4_measureNamed, Cond.initialized RX4, Cond.code yX4_measureNamed cX4_measureNamed 1 (some .int), Cond.methodLink RX4 99 yX6_isWord, Cond.instanceMethod yX6_isWord, Cond.selects RX6 yX6_isWord yX6_isWord, Cond.initialized RX6, Cond.code yX6_isWord cX6_isWord 3 (some .boolean), Cond.fieldLink RX6 35 "HoneyHouse$Tape" "kind" "I", Cond.fieldLink RX6 19 "HoneyHouse$Tape" "end" "I", Cond.fieldLink RX6 32 "HoneyHouse$Tape" "start" "I", Cond.methodLink RX6 38 yJ0_length_8abf5, Cond.instanceMethod yJ0_length_8abf5, Cond.selects RJ0 yJ0_length_8abf5 yJ0_length_8abf5, Cond.initialized RJ0, Cond.code yJ0_length_8abf5 cJ0_length_8abf5 1 (some .int), Cond.fieldLink RJ0 9 "java/lang/String" "value" "[B", Cond.methodLink RJ0 335 yJ0_coder_7d493, Cond.instanceMethod yJ0_coder_7d493, Cond.selects RJ0 yJ0_coder_7d493 yJ0_coder_7d493]
def wsX4_readTest_r2 : List Cond := [Cond.code yJ0_coder_7d493 cJ0_coder_7d493 1 (some .byte), Cond.fieldLink RJ0 38 "java/lang/String" "COMPACT_STRINGS" "Z", Cond.fieldLink RJ0 15 "java/lang/String" "coder" "B", Cond.methodLink RX6 25 yX6_byteAt, Cond.instanceMethod yX6_byteAt, Cond.selects RX6 yX6_byteAt yX6_byteAt, Cond.code yX6_byteAt cX6_byteAt 2 (some .int), Cond.fieldLink RX6 15 "HoneyHouse$Tape" "length" "I", Cond.fieldLink RX6 9 "HoneyHouse$Tape" "bytes" "[I", Cond.methodLink RX6 43 yJ0_charAt_5068e, Cond.instanceMethod yJ0_charAt_5068e, Cond.selects RJ0 yJ0_charAt_5068e yJ0_charAt_5068e, Cond.code yJ0_charAt_5068e cJ0_charAt_5068e 2 (some .char), Cond.methodLink RJ0 492 yJ0_isLatin1_aae02, Cond.instanceMethod yJ0_isLatin1_aae02, Cond.selects RJ0 yJ0_isLatin1_aae02 yJ0_isLatin1_aae02, Cond.code yJ0_isLatin1_aae02 cJ0_isLatin1_aae02 1 (some .boolean), Cond.methodLink RJ0 495 yJ1_charAt_3b067, Cond.static yJ1_charAt_3b067, Cond.initialized RJ1, Cond.code yJ1_charAt_3b067 cJ1_charAt_3b067 2 (some .char), Cond.methodLink RJ1 9 yJ0_checkIndex_df160, Cond.static yJ0_checkIndex_df160, Cond.code yJ0_checkIndex_df160 cJ0_checkIndex_df160 2 none]
def wsX4_readTest_r3 : List Cond := [Cond.fieldLink RJ0 1053 "jdk/internal/util/Preconditions" "SIOOBE_FORMATTER" "Ljava/util/function/BiFunction;", Cond.methodLink RJ0 1059 yJ3_checkIndex_8e157, Cond.static yJ3_checkIndex_8e157, Cond.initialized RJ3, Cond.code yJ3_checkIndex_8e157 cJ3_checkIndex_8e157 3 (some .int), Cond.methodLink RJ0 498 yJ2_charAt_3b067, Cond.static yJ2_charAt_3b067, Cond.initialized RJ2, Cond.code yJ2_charAt_3b067 cJ2_charAt_3b067 2 (some .char), Cond.methodLink RJ2 67 yJ2_checkIndex_2214a, Cond.static yJ2_checkIndex_2214a, Cond.code yJ2_checkIndex_2214a cJ2_checkIndex_2214a 2 none, Cond.methodLink RJ2 48 yJ2_length_9d52b, Cond.static yJ2_length_9d52b, Cond.code yJ2_length_9d52b cJ2_length_9d52b 1 (some .int), Cond.methodLink RJ2 414 yJ0_checkIndex_df160, Cond.methodLink RJ2 71 yJ2_getChar_3b067, Cond.static yJ2_getChar_3b067, Cond.code yJ2_getChar_3b067 cJ2_getChar_3b067 2 (some .char), Cond.fieldLink RJ2 44 "java/lang/StringUTF16" "$assertionsDisabled" "Z", Cond.fieldLink RJ2 59 "java/lang/StringUTF16" "HI_BYTE_SHIFT" "I", Cond.fieldLink RJ2 63 "java/lang/StringUTF16" "LO_BYTE_SHIFT" "I", Cond.methodLink RX4 64 yX4_failHere, Cond.instanceMethod yX4_failHere]
def wsX4_readTest_r4 : List Cond := [Cond.selects RX4 yX4_failHere yX4_failHere, Cond.code yX4_failHere cX4_failHere 1 (some .boolean), Cond.fieldLink RX4 73 "HoneyHouse$Tape" "start" "I", Cond.methodLink RX4 76 yX4_failAt, Cond.instanceMethod yX4_failAt, Cond.selects RX4 yX4_failAt yX4_failAt, Cond.code yX4_failAt cX4_failAt 3 (some .boolean), Cond.fieldLink RX4 26 "HoneyHouse$RuleReader" "faultKind" "I", Cond.fieldLink RX4 18 "HoneyHouse$RuleReader" "faultPlace" "I", Cond.methodLink RX4 94 yX6_advance, Cond.instanceMethod yX6_advance, Cond.selects RX6 yX6_advance yX6_advance, Cond.code yX6_advance cX6_advance 3 none, Cond.methodLink RX6 29 yX6_kindOf, Cond.static yX6_kindOf, Cond.code yX6_kindOf cX6_kindOf 1 (some .int), Cond.methodLink RX4 53 yX4_readNumber, Cond.instanceMethod yX4_readNumber, Cond.selects RX4 yX4_readNumber yX4_readNumber, Cond.code yX4_readNumber cX4_readNumber 2 (some .boolean), Cond.fieldLink RX4 61 "HoneyHouse$Tape" "kind" "I", Cond.fieldLink RX4 83 "HoneyHouse$Tape" "end" "I", Cond.methodLink RX4 117 yX6_numberValue, Cond.instanceMethod yX6_numberValue]
def wsX4_readTest_r5 : List Cond := [Cond.selects RX6 yX6_numberValue yX6_numberValue, Cond.code yX6_numberValue cX6_numberValue 3 (some .int), Cond.methodLink RX4 133 yX4_testCode, Cond.static yX4_testCode, Cond.code yX4_testCode cX4_testCode 3 (some .int), Cond.methodLink RX4 126 yX4_addCode, Cond.instanceMethod yX4_addCode, Cond.selects RX4 yX4_addCode yX4_addCode, Cond.code yX4_addCode cX4_addCode 2 none, Cond.fieldLink RX4 29 "HoneyHouse$RuleReader" "codeCount" "I", Cond.fieldLink RX4 22 "HoneyHouse$RuleReader" "codes" "[I"]
def wsX4_readTest : List Cond := .code yX4_readTest cX4_readTest 3 (some .boolean) :: ((wsX4_readTest_r1 ++ (wsX4_readTest_r2 ++ (wsX4_readTest_r3 ++ (wsX4_readTest_r4 ++ wsX4_readTest_r5)))) ++ wsX40 ++ wsX60)
def wsX4_readEither_r1 : List Cond := [Cond.fieldLink RX4 12 "HoneyHouse$RuleReader" "tape" "LHoneyHouse$Tape;", Cond.methodLink RX4 120 yX4_readOne, Cond.instanceMethod yX4_readOne, Cond.selects RX4 yX4_readOne yX4_readOne, Cond.initialized RX4, Cond.methodLink RX4 123 yX4_isAndOr, Cond.instanceMethod yX4_isAndOr, Cond.selects RX4 yX4_isAndOr yX4_isAndOr, Cond.code yX4_isAndOr cX4_isAndOr 1 (some .boolean), Cond.methodLink RX4 99 yX6_isWord, Cond.instanceMethod yX6_isWord, Cond.selects RX6 yX6_isWord yX6_isWord, Cond.initialized RX6, Cond.code yX6_isWord cX6_isWord 3 (some .boolean), Cond.fieldLink RX6 35 "HoneyHouse$Tape" "kind" "I", Cond.fieldLink RX6 19 "HoneyHouse$Tape" "end" "I", Cond.fieldLink RX6 32 "HoneyHouse$Tape" "start" "I", Cond.methodLink RX6 38 yJ0_length_8abf5, Cond.instanceMethod yJ0_length_8abf5, Cond.selects RJ0 yJ0_length_8abf5 yJ0_length_8abf5, Cond.initialized RJ0, Cond.code yJ0_length_8abf5 cJ0_length_8abf5 1 (some .int), Cond.fieldLink RJ0 9 "java/lang/String" "value" "[B", Cond.methodLink RJ0 335 yJ0_coder_7d493]
def wsX4_readEither_r2 : List Cond := [Cond.instanceMethod yJ0_coder_7d493, Cond.selects RJ0 yJ0_coder_7d493 yJ0_coder_7d493, Cond.code yJ0_coder_7d493 cJ0_coder_7d493 1 (some .byte), Cond.fieldLink RJ0 38 "java/lang/String" "COMPACT_STRINGS" "Z", Cond.fieldLink RJ0 15 "java/lang/String" "coder" "B", Cond.methodLink RX6 25 yX6_byteAt, Cond.instanceMethod yX6_byteAt, Cond.selects RX6 yX6_byteAt yX6_byteAt, Cond.code yX6_byteAt cX6_byteAt 2 (some .int), Cond.fieldLink RX6 15 "HoneyHouse$Tape" "length" "I", Cond.fieldLink RX6 9 "HoneyHouse$Tape" "bytes" "[I", Cond.methodLink RX6 43 yJ0_charAt_5068e, Cond.instanceMethod yJ0_charAt_5068e, Cond.selects RJ0 yJ0_charAt_5068e yJ0_charAt_5068e, Cond.code yJ0_charAt_5068e cJ0_charAt_5068e 2 (some .char), Cond.methodLink RJ0 492 yJ0_isLatin1_aae02, Cond.instanceMethod yJ0_isLatin1_aae02, Cond.selects RJ0 yJ0_isLatin1_aae02 yJ0_isLatin1_aae02, Cond.code yJ0_isLatin1_aae02 cJ0_isLatin1_aae02 1 (some .boolean), Cond.methodLink RJ0 495 yJ1_charAt_3b067, Cond.static yJ1_charAt_3b067, Cond.initialized RJ1, Cond.code yJ1_charAt_3b067 cJ1_charAt_3b067 2 (some .char), Cond.methodLink RJ1 9 yJ0_checkIndex_df160]
def wsX4_readEither_r3 : List Cond := [Cond.static yJ0_checkIndex_df160, Cond.code yJ0_checkIndex_df160 cJ0_checkIndex_df160 2 none, Cond.fieldLink RJ0 1053 "jdk/internal/util/Preconditions" "SIOOBE_FORMATTER" "Ljava/util/function/BiFunction;", Cond.methodLink RJ0 1059 yJ3_checkIndex_8e157, Cond.static yJ3_checkIndex_8e157, Cond.initialized RJ3, Cond.code yJ3_checkIndex_8e157 cJ3_checkIndex_8e157 3 (some .int), Cond.methodLink RJ0 498 yJ2_charAt_3b067, Cond.static yJ2_charAt_3b067, Cond.initialized RJ2, Cond.code yJ2_charAt_3b067 cJ2_charAt_3b067 2 (some .char), Cond.methodLink RJ2 67 yJ2_checkIndex_2214a, Cond.static yJ2_checkIndex_2214a, Cond.code yJ2_checkIndex_2214a cJ2_checkIndex_2214a 2 none, Cond.methodLink RJ2 48 yJ2_length_9d52b, Cond.static yJ2_length_9d52b, Cond.code yJ2_length_9d52b cJ2_length_9d52b 1 (some .int), Cond.methodLink RJ2 414 yJ0_checkIndex_df160, Cond.methodLink RJ2 71 yJ2_getChar_3b067, Cond.static yJ2_getChar_3b067, Cond.code yJ2_getChar_3b067 cJ2_getChar_3b067 2 (some .char), Cond.fieldLink RJ2 44 "java/lang/StringUTF16" "$assertionsDisabled" "Z", Cond.fieldLink RJ2 59 "java/lang/StringUTF16" "HI_BYTE_SHIFT" "I", Cond.fieldLink RJ2 63 "java/lang/StringUTF16" "LO_BYTE_SHIFT" "I"]
def wsX4_readEither_r4 : List Cond := [Cond.methodLink RX4 126 yX4_addCode, Cond.instanceMethod yX4_addCode, Cond.selects RX4 yX4_addCode yX4_addCode, Cond.code yX4_addCode cX4_addCode 2 none, Cond.fieldLink RX4 29 "HoneyHouse$RuleReader" "codeCount" "I", Cond.fieldLink RX4 22 "HoneyHouse$RuleReader" "codes" "[I", Cond.methodLink RX4 94 yX6_advance, Cond.instanceMethod yX6_advance, Cond.selects RX6 yX6_advance yX6_advance, Cond.code yX6_advance cX6_advance 3 none, Cond.methodLink RX6 29 yX6_kindOf, Cond.static yX6_kindOf, Cond.code yX6_kindOf cX6_kindOf 1 (some .int), Cond.code yX4_readOne cX4_readOne 4 (some .boolean), Cond.fieldLink RX4 73 "HoneyHouse$Tape" "start" "I", Cond.methodLink RX4 114 yX6_isByte, Cond.instanceMethod yX6_isByte, Cond.selects RX6 yX6_isByte yX6_isByte, Cond.code yX6_isByte cX6_isByte 2 (some .boolean), Cond.methodLink RX4 130 yX4_readTest, Cond.instanceMethod yX4_readTest, Cond.selects RX4 yX4_readTest yX4_readTest, Cond.code yX4_readTest cX4_readTest 3 (some .boolean), Cond.fieldLink RX4 56 "HoneyHouse$RuleReader" "value" "I"]
def wsX4_readEither_r5 : List Cond := [Cond.methodLink RX4 110 yX4_measureNamed, Cond.instanceMethod yX4_measureNamed, Cond.selects RX4 yX4_measureNamed yX4_measureNamed, Cond.code yX4_measureNamed cX4_measureNamed 1 (some .int), Cond.methodLink RX4 64 yX4_failHere, Cond.instanceMethod yX4_failHere, Cond.selects RX4 yX4_failHere yX4_failHere, Cond.code yX4_failHere cX4_failHere 1 (some .boolean), Cond.methodLink RX4 76 yX4_failAt, Cond.instanceMethod yX4_failAt, Cond.selects RX4 yX4_failAt yX4_failAt, Cond.code yX4_failAt cX4_failAt 3 (some .boolean), Cond.fieldLink RX4 26 "HoneyHouse$RuleReader" "faultKind" "I", Cond.fieldLink RX4 18 "HoneyHouse$RuleReader" "faultPlace" "I", Cond.methodLink RX4 53 yX4_readNumber, Cond.instanceMethod yX4_readNumber, Cond.selects RX4 yX4_readNumber yX4_readNumber, Cond.code yX4_readNumber cX4_readNumber 2 (some .boolean), Cond.fieldLink RX4 61 "HoneyHouse$Tape" "kind" "I", Cond.fieldLink RX4 83 "HoneyHouse$Tape" "end" "I", Cond.methodLink RX4 117 yX6_numberValue, Cond.instanceMethod yX6_numberValue, Cond.selects RX6 yX6_numberValue yX6_numberValue, Cond.code yX6_numberValue cX6_numberValue 3 (some .int)]
def wsX4_readEither_r6 : List Cond := [Cond.methodLink RX4 133 yX4_testCode, Cond.static yX4_testCode, Cond.code yX4_testCode cX4_testCode 3 (some .int), Cond.methodLink RX4 43 yX4_readEither, Cond.instanceMethod yX4_readEither, Cond.selects RX4 yX4_readEither yX4_readEither, Cond.methodLink RX4 39 yX4_readByte, Cond.instanceMethod yX4_readByte, Cond.selects RX4 yX4_readByte yX4_readByte, Cond.code yX4_readByte cX4_readByte 2 (some .boolean)]
def wsX4_readEither : List Cond := .code yX4_readEither cX4_readEither 6 (some .boolean) :: ((wsX4_readEither_r1 ++ (wsX4_readEither_r2 ++ (wsX4_readEither_r3 ++ (wsX4_readEither_r4 ++ (wsX4_readEither_r5 ++ wsX4_readEither_r6))))) ++ wsX40 ++ wsX60)
def wsX4_readOne_r1 : List Cond := [Cond.fieldLink RX4 12 "HoneyHouse$RuleReader" "tape" "LHoneyHouse$Tape;", Cond.fieldLink RX4 73 "HoneyHouse$Tape" "start" "I", Cond.methodLink RX4 99 yX6_isWord, Cond.instanceMethod yX6_isWord, Cond.selects RX6 yX6_isWord yX6_isWord, Cond.initialized RX6, Cond.code yX6_isWord cX6_isWord 3 (some .boolean), Cond.fieldLink RX6 35 "HoneyHouse$Tape" "kind" "I", Cond.fieldLink RX6 19 "HoneyHouse$Tape" "end" "I", Cond.fieldLink RX6 32 "HoneyHouse$Tape" "start" "I", Cond.methodLink RX6 38 yJ0_length_8abf5, Cond.instanceMethod yJ0_length_8abf5, Cond.selects RJ0 yJ0_length_8abf5 yJ0_length_8abf5, Cond.initialized RJ0, Cond.code yJ0_length_8abf5 cJ0_length_8abf5 1 (some .int), Cond.fieldLink RJ0 9 "java/lang/String" "value" "[B", Cond.methodLink RJ0 335 yJ0_coder_7d493, Cond.instanceMethod yJ0_coder_7d493, Cond.selects RJ0 yJ0_coder_7d493 yJ0_coder_7d493, Cond.code yJ0_coder_7d493 cJ0_coder_7d493 1 (some .byte), Cond.fieldLink RJ0 38 "java/lang/String" "COMPACT_STRINGS" "Z", Cond.fieldLink RJ0 15 "java/lang/String" "coder" "B", Cond.methodLink RX6 25 yX6_byteAt, Cond.instanceMethod yX6_byteAt]
def wsX4_readOne_r2 : List Cond := [Cond.selects RX6 yX6_byteAt yX6_byteAt, Cond.code yX6_byteAt cX6_byteAt 2 (some .int), Cond.fieldLink RX6 15 "HoneyHouse$Tape" "length" "I", Cond.fieldLink RX6 9 "HoneyHouse$Tape" "bytes" "[I", Cond.methodLink RX6 43 yJ0_charAt_5068e, Cond.instanceMethod yJ0_charAt_5068e, Cond.selects RJ0 yJ0_charAt_5068e yJ0_charAt_5068e, Cond.code yJ0_charAt_5068e cJ0_charAt_5068e 2 (some .char), Cond.methodLink RJ0 492 yJ0_isLatin1_aae02, Cond.instanceMethod yJ0_isLatin1_aae02, Cond.selects RJ0 yJ0_isLatin1_aae02 yJ0_isLatin1_aae02, Cond.code yJ0_isLatin1_aae02 cJ0_isLatin1_aae02 1 (some .boolean), Cond.methodLink RJ0 495 yJ1_charAt_3b067, Cond.static yJ1_charAt_3b067, Cond.initialized RJ1, Cond.code yJ1_charAt_3b067 cJ1_charAt_3b067 2 (some .char), Cond.methodLink RJ1 9 yJ0_checkIndex_df160, Cond.static yJ0_checkIndex_df160, Cond.code yJ0_checkIndex_df160 cJ0_checkIndex_df160 2 none, Cond.fieldLink RJ0 1053 "jdk/internal/util/Preconditions" "SIOOBE_FORMATTER" "Ljava/util/function/BiFunction;", Cond.methodLink RJ0 1059 yJ3_checkIndex_8e157, Cond.static yJ3_checkIndex_8e157, Cond.initialized RJ3, Cond.code yJ3_checkIndex_8e157 cJ3_checkIndex_8e157 3 (some .int)]
def wsX4_readOne_r3 : List Cond := [Cond.methodLink RJ0 498 yJ2_charAt_3b067, Cond.static yJ2_charAt_3b067, Cond.initialized RJ2, Cond.code yJ2_charAt_3b067 cJ2_charAt_3b067 2 (some .char), Cond.methodLink RJ2 67 yJ2_checkIndex_2214a, Cond.static yJ2_checkIndex_2214a, Cond.code yJ2_checkIndex_2214a cJ2_checkIndex_2214a 2 none, Cond.methodLink RJ2 48 yJ2_length_9d52b, Cond.static yJ2_length_9d52b, Cond.code yJ2_length_9d52b cJ2_length_9d52b 1 (some .int), Cond.methodLink RJ2 414 yJ0_checkIndex_df160, Cond.methodLink RJ2 71 yJ2_getChar_3b067, Cond.static yJ2_getChar_3b067, Cond.code yJ2_getChar_3b067 cJ2_getChar_3b067 2 (some .char), Cond.fieldLink RJ2 44 "java/lang/StringUTF16" "$assertionsDisabled" "Z", Cond.fieldLink RJ2 59 "java/lang/StringUTF16" "HI_BYTE_SHIFT" "I", Cond.fieldLink RJ2 63 "java/lang/StringUTF16" "LO_BYTE_SHIFT" "I", Cond.methodLink RX4 114 yX6_isByte, Cond.instanceMethod yX6_isByte, Cond.selects RX6 yX6_isByte yX6_isByte, Cond.code yX6_isByte cX6_isByte 2 (some .boolean), Cond.methodLink RX4 130 yX4_readTest, Cond.instanceMethod yX4_readTest, Cond.selects RX4 yX4_readTest yX4_readTest]
def wsX4_readOne_r4 : List Cond := [Cond.initialized RX4, Cond.code yX4_readTest cX4_readTest 3 (some .boolean), Cond.fieldLink RX4 56 "HoneyHouse$RuleReader" "value" "I", Cond.methodLink RX4 110 yX4_measureNamed, Cond.instanceMethod yX4_measureNamed, Cond.selects RX4 yX4_measureNamed yX4_measureNamed, Cond.code yX4_measureNamed cX4_measureNamed 1 (some .int), Cond.methodLink RX4 64 yX4_failHere, Cond.instanceMethod yX4_failHere, Cond.selects RX4 yX4_failHere yX4_failHere, Cond.code yX4_failHere cX4_failHere 1 (some .boolean), Cond.methodLink RX4 76 yX4_failAt, Cond.instanceMethod yX4_failAt, Cond.selects RX4 yX4_failAt yX4_failAt, Cond.code yX4_failAt cX4_failAt 3 (some .boolean), Cond.fieldLink RX4 26 "HoneyHouse$RuleReader" "faultKind" "I", Cond.fieldLink RX4 18 "HoneyHouse$RuleReader" "faultPlace" "I", Cond.methodLink RX4 94 yX6_advance, Cond.instanceMethod yX6_advance, Cond.selects RX6 yX6_advance yX6_advance, Cond.code yX6_advance cX6_advance 3 none, Cond.methodLink RX6 29 yX6_kindOf, Cond.static yX6_kindOf, Cond.code yX6_kindOf cX6_kindOf 1 (some .int)]
def wsX4_readOne_r5 : List Cond := [Cond.methodLink RX4 53 yX4_readNumber, Cond.instanceMethod yX4_readNumber, Cond.selects RX4 yX4_readNumber yX4_readNumber, Cond.code yX4_readNumber cX4_readNumber 2 (some .boolean), Cond.fieldLink RX4 61 "HoneyHouse$Tape" "kind" "I", Cond.fieldLink RX4 83 "HoneyHouse$Tape" "end" "I", Cond.methodLink RX4 117 yX6_numberValue, Cond.instanceMethod yX6_numberValue, Cond.selects RX6 yX6_numberValue yX6_numberValue, Cond.code yX6_numberValue cX6_numberValue 3 (some .int), Cond.methodLink RX4 133 yX4_testCode, Cond.static yX4_testCode, Cond.code yX4_testCode cX4_testCode 3 (some .int), Cond.methodLink RX4 126 yX4_addCode, Cond.instanceMethod yX4_addCode, Cond.selects RX4 yX4_addCode yX4_addCode, Cond.code yX4_addCode cX4_addCode 2 none, Cond.fieldLink RX4 29 "HoneyHouse$RuleReader" "codeCount" "I", Cond.fieldLink RX4 22 "HoneyHouse$RuleReader" "codes" "[I", Cond.methodLink RX4 43 yX4_readEither, Cond.instanceMethod yX4_readEither, Cond.selects RX4 yX4_readEither yX4_readEither, Cond.methodLink RX4 39 yX4_readByte, Cond.instanceMethod yX4_readByte]
def wsX4_readOne_r6 : List Cond := [Cond.selects RX4 yX4_readByte yX4_readByte, Cond.code yX4_readByte cX4_readByte 2 (some .boolean), Cond.methodLink RX4 120 yX4_readOne, Cond.instanceMethod yX4_readOne, Cond.selects RX4 yX4_readOne yX4_readOne, Cond.code yX4_readEither cX4_readEither 6 (some .boolean), Cond.methodLink RX4 123 yX4_isAndOr, Cond.instanceMethod yX4_isAndOr, Cond.selects RX4 yX4_isAndOr yX4_isAndOr, Cond.code yX4_isAndOr cX4_isAndOr 1 (some .boolean)]
def wsX4_readOne : List Cond := .code yX4_readOne cX4_readOne 4 (some .boolean) :: ((wsX4_readOne_r1 ++ (wsX4_readOne_r2 ++ (wsX4_readOne_r3 ++ (wsX4_readOne_r4 ++ (wsX4_readOne_r5 ++ wsX4_readOne_r6))))) ++ wsX40 ++ wsX60)
def wsX4_readWord_r1 : List Cond := [Cond.fieldLink RX4 12 "HoneyHouse$RuleReader" "tape" "LHoneyHouse$Tape;", Cond.methodLink RX4 99 yX6_isWord, Cond.instanceMethod yX6_isWord, Cond.selects RX6 yX6_isWord yX6_isWord, Cond.initialized RX6, Cond.code yX6_isWord cX6_isWord 3 (some .boolean), Cond.fieldLink RX6 35 "HoneyHouse$Tape" "kind" "I", Cond.fieldLink RX6 19 "HoneyHouse$Tape" "end" "I", Cond.fieldLink RX6 32 "HoneyHouse$Tape" "start" "I", Cond.methodLink RX6 38 yJ0_length_8abf5, Cond.instanceMethod yJ0_length_8abf5, Cond.selects RJ0 yJ0_length_8abf5 yJ0_length_8abf5, Cond.initialized RJ0, Cond.code yJ0_length_8abf5 cJ0_length_8abf5 1 (some .int), Cond.fieldLink RJ0 9 "java/lang/String" "value" "[B", Cond.methodLink RJ0 335 yJ0_coder_7d493, Cond.instanceMethod yJ0_coder_7d493, Cond.selects RJ0 yJ0_coder_7d493 yJ0_coder_7d493, Cond.code yJ0_coder_7d493 cJ0_coder_7d493 1 (some .byte), Cond.fieldLink RJ0 38 "java/lang/String" "COMPACT_STRINGS" "Z", Cond.fieldLink RJ0 15 "java/lang/String" "coder" "B", Cond.methodLink RX6 25 yX6_byteAt, Cond.instanceMethod yX6_byteAt, Cond.selects RX6 yX6_byteAt yX6_byteAt]
def wsX4_readWord_r2 : List Cond := [Cond.code yX6_byteAt cX6_byteAt 2 (some .int), Cond.fieldLink RX6 15 "HoneyHouse$Tape" "length" "I", Cond.fieldLink RX6 9 "HoneyHouse$Tape" "bytes" "[I", Cond.methodLink RX6 43 yJ0_charAt_5068e, Cond.instanceMethod yJ0_charAt_5068e, Cond.selects RJ0 yJ0_charAt_5068e yJ0_charAt_5068e, Cond.code yJ0_charAt_5068e cJ0_charAt_5068e 2 (some .char), Cond.methodLink RJ0 492 yJ0_isLatin1_aae02, Cond.instanceMethod yJ0_isLatin1_aae02, Cond.selects RJ0 yJ0_isLatin1_aae02 yJ0_isLatin1_aae02, Cond.code yJ0_isLatin1_aae02 cJ0_isLatin1_aae02 1 (some .boolean), Cond.methodLink RJ0 495 yJ1_charAt_3b067, Cond.static yJ1_charAt_3b067, Cond.initialized RJ1, Cond.code yJ1_charAt_3b067 cJ1_charAt_3b067 2 (some .char), Cond.methodLink RJ1 9 yJ0_checkIndex_df160, Cond.static yJ0_checkIndex_df160, Cond.code yJ0_checkIndex_df160 cJ0_checkIndex_df160 2 none, Cond.fieldLink RJ0 1053 "jdk/internal/util/Preconditions" "SIOOBE_FORMATTER" "Ljava/util/function/BiFunction;", Cond.methodLink RJ0 1059 yJ3_checkIndex_8e157, Cond.static yJ3_checkIndex_8e157, Cond.initialized RJ3, Cond.code yJ3_checkIndex_8e157 cJ3_checkIndex_8e157 3 (some .int), Cond.methodLink RJ0 498 yJ2_charAt_3b067]
def wsX4_readWord_r3 : List Cond := [Cond.static yJ2_charAt_3b067, Cond.initialized RJ2, Cond.code yJ2_charAt_3b067 cJ2_charAt_3b067 2 (some .char), Cond.methodLink RJ2 67 yJ2_checkIndex_2214a, Cond.static yJ2_checkIndex_2214a, Cond.code yJ2_checkIndex_2214a cJ2_checkIndex_2214a 2 none, Cond.methodLink RJ2 48 yJ2_length_9d52b, Cond.static yJ2_length_9d52b, Cond.code yJ2_length_9d52b cJ2_length_9d52b 1 (some .int), Cond.methodLink RJ2 414 yJ0_checkIndex_df160, Cond.methodLink RJ2 71 yJ2_getChar_3b067, Cond.static yJ2_getChar_3b067, Cond.code yJ2_getChar_3b067 cJ2_getChar_3b067 2 (some .char), Cond.fieldLink RJ2 44 "java/lang/StringUTF16" "$assertionsDisabled" "Z", Cond.fieldLink RJ2 59 "java/lang/StringUTF16" "HI_BYTE_SHIFT" "I", Cond.fieldLink RJ2 63 "java/lang/StringUTF16" "LO_BYTE_SHIFT" "I", Cond.methodLink RX4 64 yX4_failHere, Cond.instanceMethod yX4_failHere, Cond.selects RX4 yX4_failHere yX4_failHere, Cond.initialized RX4, Cond.code yX4_failHere cX4_failHere 1 (some .boolean), Cond.fieldLink RX4 73 "HoneyHouse$Tape" "start" "I", Cond.methodLink RX4 76 yX4_failAt, Cond.instanceMethod yX4_failAt]
def wsX4_readWord_r4 : List Cond := [Cond.selects RX4 yX4_failAt yX4_failAt, Cond.code yX4_failAt cX4_failAt 3 (some .boolean), Cond.fieldLink RX4 26 "HoneyHouse$RuleReader" "faultKind" "I", Cond.fieldLink RX4 18 "HoneyHouse$RuleReader" "faultPlace" "I", Cond.methodLink RX4 94 yX6_advance, Cond.instanceMethod yX6_advance, Cond.selects RX6 yX6_advance yX6_advance, Cond.code yX6_advance cX6_advance 3 none, Cond.methodLink RX6 29 yX6_kindOf, Cond.static yX6_kindOf, Cond.code yX6_kindOf cX6_kindOf 1 (some .int)]
def wsX4_readWord : List Cond := .code yX4_readWord cX4_readWord 2 (some .boolean) :: ((wsX4_readWord_r1 ++ (wsX4_readWord_r2 ++ (wsX4_readWord_r3 ++ wsX4_readWord_r4))) ++ wsX40 ++ wsX60)
def wsX4_read_r1 : List Cond := [Cond.fieldLink RX4 26 "HoneyHouse$RuleReader" "faultKind" "I", Cond.fieldLink RX4 18 "HoneyHouse$RuleReader" "faultPlace" "I", Cond.fieldLink RX4 29 "HoneyHouse$RuleReader" "codeCount" "I", Cond.fieldLink RX4 12 "HoneyHouse$RuleReader" "tape" "LHoneyHouse$Tape;", Cond.fieldLink RX4 56 "HoneyHouse$RuleReader" "value" "I", Cond.fieldLink RX4 59 "HoneyHouse$RuleReader" "from" "I", Cond.fieldLink RX4 61 "HoneyHouse$Tape" "kind" "I", Cond.methodLink RX4 32 yX6_rewind, Cond.instanceMethod yX6_rewind, Cond.selects RX6 yX6_rewind yX6_rewind, Cond.initialized RX6, Cond.code yX6_rewind cX6_rewind 1 none, Cond.fieldLink RX6 19 "HoneyHouse$Tape" "end" "I", Cond.methodLink RX6 22 yX6_advance, Cond.instanceMethod yX6_advance, Cond.selects RX6 yX6_advance yX6_advance, Cond.code yX6_advance cX6_advance 3 none, Cond.fieldLink RX6 15 "HoneyHouse$Tape" "length" "I", Cond.fieldLink RX6 32 "HoneyHouse$Tape" "start" "I", Cond.fieldLink RX6 35 "HoneyHouse$Tape" "kind" "I", Cond.methodLink RX6 25 yX6_byteAt, Cond.instanceMethod yX6_byteAt, Cond.selects RX6 yX6_byteAt yX6_byteAt, Cond.code yX6_byteAt cX6_byteAt 2 (some .int)]
def wsX4_read_r2 : List Cond := [Cond.fieldLink RX6 9 "HoneyHouse$Tape" "bytes" "[I", Cond.methodLink RX6 29 yX6_kindOf, Cond.static yX6_kindOf, Cond.code yX6_kindOf cX6_kindOf 1 (some .int), Cond.methodLink RX4 35 yX4_readName, Cond.instanceMethod yX4_readName, Cond.selects RX4 yX4_readName yX4_readName, Cond.initialized RX4, Cond.code yX4_readName cX4_readName 1 (some .boolean), Cond.fieldLink RX4 83 "HoneyHouse$Tape" "end" "I", Cond.fieldLink RX4 73 "HoneyHouse$Tape" "start" "I", Cond.fieldLink RX4 90 "HoneyHouse$RuleReader" "nameKey" "J", Cond.methodLink RX4 80 yX4_isKeptWord, Cond.instanceMethod yX4_isKeptWord, Cond.selects RX4 yX4_isKeptWord yX4_isKeptWord, Cond.code yX4_isKeptWord cX4_isKeptWord 1 (some .boolean), Cond.methodLink RX4 99 yX6_isWord, Cond.instanceMethod yX6_isWord, Cond.selects RX6 yX6_isWord yX6_isWord, Cond.code yX6_isWord cX6_isWord 3 (some .boolean), Cond.methodLink RX6 38 yJ0_length_8abf5, Cond.instanceMethod yJ0_length_8abf5, Cond.selects RJ0 yJ0_length_8abf5 yJ0_length_8abf5, Cond.initialized RJ0]
def wsX4_read_r3 : List Cond := [Cond.code yJ0_length_8abf5 cJ0_length_8abf5 1 (some .int), Cond.fieldLink RJ0 9 "java/lang/String" "value" "[B", Cond.methodLink RJ0 335 yJ0_coder_7d493, Cond.instanceMethod yJ0_coder_7d493, Cond.selects RJ0 yJ0_coder_7d493 yJ0_coder_7d493, Cond.code yJ0_coder_7d493 cJ0_coder_7d493 1 (some .byte), Cond.fieldLink RJ0 38 "java/lang/String" "COMPACT_STRINGS" "Z", Cond.fieldLink RJ0 15 "java/lang/String" "coder" "B", Cond.methodLink RX6 43 yJ0_charAt_5068e, Cond.instanceMethod yJ0_charAt_5068e, Cond.selects RJ0 yJ0_charAt_5068e yJ0_charAt_5068e, Cond.code yJ0_charAt_5068e cJ0_charAt_5068e 2 (some .char), Cond.methodLink RJ0 492 yJ0_isLatin1_aae02, Cond.instanceMethod yJ0_isLatin1_aae02, Cond.selects RJ0 yJ0_isLatin1_aae02 yJ0_isLatin1_aae02, Cond.code yJ0_isLatin1_aae02 cJ0_isLatin1_aae02 1 (some .boolean), Cond.methodLink RJ0 495 yJ1_charAt_3b067, Cond.static yJ1_charAt_3b067, Cond.initialized RJ1, Cond.code yJ1_charAt_3b067 cJ1_charAt_3b067 2 (some .char), Cond.methodLink RJ1 9 yJ0_checkIndex_df160, Cond.static yJ0_checkIndex_df160, Cond.code yJ0_checkIndex_df160 cJ0_checkIndex_df160 2 none, Cond.fieldLink RJ0 1053 "jdk/internal/util/Preconditions" "SIOOBE_FORMATTER" "Ljava/util/function/BiFunction;"]
def wsX4_read_r4 : List Cond := [Cond.methodLink RJ0 1059 yJ3_checkIndex_8e157, Cond.static yJ3_checkIndex_8e157, Cond.initialized RJ3, Cond.code yJ3_checkIndex_8e157 cJ3_checkIndex_8e157 3 (some .int), Cond.methodLink RJ0 498 yJ2_charAt_3b067, Cond.static yJ2_charAt_3b067, Cond.initialized RJ2, Cond.code yJ2_charAt_3b067 cJ2_charAt_3b067 2 (some .char), Cond.methodLink RJ2 67 yJ2_checkIndex_2214a, Cond.static yJ2_checkIndex_2214a, Cond.code yJ2_checkIndex_2214a cJ2_checkIndex_2214a 2 none, Cond.methodLink RJ2 48 yJ2_length_9d52b, Cond.static yJ2_length_9d52b, Cond.code yJ2_length_9d52b cJ2_length_9d52b 1 (some .int), Cond.methodLink RJ2 414 yJ0_checkIndex_df160, Cond.methodLink RJ2 71 yJ2_getChar_3b067, Cond.static yJ2_getChar_3b067, Cond.code yJ2_getChar_3b067 cJ2_getChar_3b067 2 (some .char), Cond.fieldLink RJ2 44 "java/lang/StringUTF16" "$assertionsDisabled" "Z", Cond.fieldLink RJ2 59 "java/lang/StringUTF16" "HI_BYTE_SHIFT" "I", Cond.fieldLink RJ2 63 "java/lang/StringUTF16" "LO_BYTE_SHIFT" "I", Cond.methodLink RX4 110 yX4_measureNamed, Cond.instanceMethod yX4_measureNamed, Cond.selects RX4 yX4_measureNamed yX4_measureNamed]
def wsX4_read_r5 : List Cond := [Cond.code yX4_measureNamed cX4_measureNamed 1 (some .int), Cond.methodLink RX4 64 yX4_failHere, Cond.instanceMethod yX4_failHere, Cond.selects RX4 yX4_failHere yX4_failHere, Cond.code yX4_failHere cX4_failHere 1 (some .boolean), Cond.methodLink RX4 76 yX4_failAt, Cond.instanceMethod yX4_failAt, Cond.selects RX4 yX4_failAt yX4_failAt, Cond.code yX4_failAt cX4_failAt 3 (some .boolean), Cond.methodLink RX4 86 yX6_wordKey, Cond.instanceMethod yX6_wordKey, Cond.selects RX6 yX6_wordKey yX6_wordKey, Cond.code yX6_wordKey cX6_wordKey 4 (some .long), Cond.constantLong RX6 47 (97), Cond.methodLink RX4 94 yX6_advance, Cond.methodLink RX4 39 yX4_readByte, Cond.instanceMethod yX4_readByte, Cond.selects RX4 yX4_readByte yX4_readByte, Cond.code yX4_readByte cX4_readByte 2 (some .boolean), Cond.methodLink RX4 114 yX6_isByte, Cond.instanceMethod yX6_isByte, Cond.selects RX6 yX6_isByte yX6_isByte, Cond.code yX6_isByte cX6_isByte 2 (some .boolean), Cond.methodLink RX4 43 yX4_readEither]
def wsX4_read_r6 : List Cond := [Cond.instanceMethod yX4_readEither, Cond.selects RX4 yX4_readEither yX4_readEither, Cond.code yX4_readEither cX4_readEither 6 (some .boolean), Cond.methodLink RX4 120 yX4_readOne, Cond.instanceMethod yX4_readOne, Cond.selects RX4 yX4_readOne yX4_readOne, Cond.methodLink RX4 123 yX4_isAndOr, Cond.instanceMethod yX4_isAndOr, Cond.selects RX4 yX4_isAndOr yX4_isAndOr, Cond.code yX4_isAndOr cX4_isAndOr 1 (some .boolean), Cond.methodLink RX4 126 yX4_addCode, Cond.instanceMethod yX4_addCode, Cond.selects RX4 yX4_addCode yX4_addCode, Cond.code yX4_addCode cX4_addCode 2 none, Cond.fieldLink RX4 22 "HoneyHouse$RuleReader" "codes" "[I", Cond.code yX4_readOne cX4_readOne 4 (some .boolean), Cond.methodLink RX4 130 yX4_readTest, Cond.instanceMethod yX4_readTest, Cond.selects RX4 yX4_readTest yX4_readTest, Cond.code yX4_readTest cX4_readTest 3 (some .boolean), Cond.methodLink RX4 53 yX4_readNumber, Cond.instanceMethod yX4_readNumber, Cond.selects RX4 yX4_readNumber yX4_readNumber, Cond.code yX4_readNumber cX4_readNumber 2 (some .boolean)]
def wsX4_read_r7 : List Cond := [Cond.methodLink RX4 117 yX6_numberValue, Cond.instanceMethod yX6_numberValue, Cond.selects RX6 yX6_numberValue yX6_numberValue, Cond.code yX6_numberValue cX6_numberValue 3 (some .int), Cond.methodLink RX4 133 yX4_testCode, Cond.static yX4_testCode, Cond.code yX4_testCode cX4_testCode 3 (some .int), Cond.methodLink RX4 49 yX4_readWord, Cond.instanceMethod yX4_readWord, Cond.selects RX4 yX4_readWord yX4_readWord, Cond.code yX4_readWord cX4_readWord 2 (some .boolean)]
def wsX4_read : List Cond := .code yX4_read cX4_read 1 (some .boolean) :: ((wsX4_read_r1 ++ (wsX4_read_r2 ++ (wsX4_read_r3 ++ (wsX4_read_r4 ++ (wsX4_read_r5 ++ (wsX4_read_r6 ++ wsX4_read_r7)))))) ++ wsX40 ++ wsX60)
def wsJ7_copyOf_59c91 : List Cond := .code yJ7_copyOf_59c91 cJ7_copyOf_59c91 3 (some (.array .int)) :: ([.methodLink RJ7 316 ⟨"[I", "clone", "()Ljava/lang/Object;"⟩, .sameMethod "[I" "java/lang/Object" "clone" "()Ljava/lang/Object;", .native ⟨"java/lang/Object", "clone", "()Ljava/lang/Object;"⟩, .instanceMethod ⟨"java/lang/Object", "clone", "()Ljava/lang/Object;"⟩, .selects "[I" ⟨"[I", "clone", "()Ljava/lang/Object;"⟩ ⟨"java/lang/Object", "clone", "()Ljava/lang/Object;"⟩, .classLink RJ7 317 "[I", .arrayClass .int, .methodLink RJ7 304 Lib.Math.min.name, .static Lib.Math.min.name, .initialized "java/lang/Math", .code Lib.Math.min.name Lib.Math.min.code 2 (some .int), .methodLink RJ7 150 arraycopyName, .native arraycopyName, .static arraycopyName, .initialized "java/lang/System"])
def wsX4_codeRead : List Cond := .code yX4_codeRead cX4_codeRead 1 (some (.array .int)) :: ([.fieldLink RX4 22 "HoneyHouse$RuleReader" "codes" "[I", .fieldLink RX4 29 "HoneyHouse$RuleReader" "codeCount" "I", .methodLink RX4 67 yJ7_copyOf_59c91, .static yJ7_copyOf_59c91, .initialized RJ7, .code yJ7_copyOf_59c91 cJ7_copyOf_59c91 3 (some (.array .int)), .methodLink RJ7 316 ⟨"[I", "clone", "()Ljava/lang/Object;"⟩, .sameMethod "[I" "java/lang/Object" "clone" "()Ljava/lang/Object;", .native ⟨"java/lang/Object", "clone", "()Ljava/lang/Object;"⟩, .instanceMethod ⟨"java/lang/Object", "clone", "()Ljava/lang/Object;"⟩, .selects "[I" ⟨"[I", "clone", "()Ljava/lang/Object;"⟩ ⟨"java/lang/Object", "clone", "()Ljava/lang/Object;"⟩, .classLink RJ7 317 "[I", .arrayClass .int, .methodLink RJ7 304 Lib.Math.min.name, .static Lib.Math.min.name, .initialized "java/lang/Math", .code Lib.Math.min.name Lib.Math.min.code 2 (some .int), .methodLink RJ7 150 arraycopyName, .native arraycopyName, .static arraycopyName, .initialized "java/lang/System"] ++ wsX40)
def wsX6_append : List Cond := .code yX6_append cX6_append 3 none :: ([.fieldLink RX6 15 "HoneyHouse$Tape" "length" "I", .fieldLink RX6 9 "HoneyHouse$Tape" "bytes" "[I"] ++ wsX60)
def wsX7_init : List Cond := .code yX7_init cX7_init 3 none :: ([.methodLink RX7 3 objectInit, .instanceMethod objectInit, .code objectInit ⟨#[0xb1]⟩ 1 none, .arrayClass .int, .fieldLink RX7 9 "HoneyHouse$Vessel" "grams" "[I", .fieldLink RX7 15 "HoneyHouse$Vessel" "roomOrTank" "I", .fieldLink RX7 19 "HoneyHouse$Vessel" "priceOrDay" "I"] ++ wsX70)
def wsX7_hasRoomFor : List Cond := .code yX7_hasRoomFor cX7_hasRoomFor 2 (some .boolean) :: ([.fieldLink RX7 15 "HoneyHouse$Vessel" "roomOrTank" "I", .fieldLink RX7 22 "HoneyHouse$Vessel" "total" "I"] ++ wsX70)
def wsX7_lotsInIt : List Cond := .code yX7_lotsInIt cX7_lotsInIt 3 (some .int) :: ([.fieldLink RX7 9 "HoneyHouse$Vessel" "grams" "[I"] ++ wsX70)
def wsX8_init_r1 : List Cond := [Cond.methodLink RX8 1 objectInit, Cond.instanceMethod objectInit, Cond.code objectInit ⟨#[0xb1]⟩ 1 none, Cond.classLink RX8 9 RX2, Cond.fieldLink RX8 11 "HoneyHouse" "lots" "[LHoneyHouse$Lot;", Cond.classLink RX8 15 RX7, Cond.fieldLink RX8 17 "HoneyHouse" "tanks" "[LHoneyHouse$Vessel;", Cond.fieldLink RX8 21 "HoneyHouse" "batches" "[LHoneyHouse$Vessel;", Cond.classLink RX8 24 RX3, Cond.fieldLink RX8 26 "HoneyHouse" "rules" "[LHoneyHouse$Rule;", Cond.classLink RX8 30 RX5, Cond.instantiable RX5 2, Cond.initialized RX5, Cond.fieldLink RX8 33 "HoneyHouse" "stepsNow" "LHoneyHouse$Steps;", Cond.classLink RX8 37 RX4, Cond.instantiable RX4 8, Cond.initialized RX4, Cond.fieldLink RX8 40 "HoneyHouse" "reader" "LHoneyHouse$RuleReader;", Cond.classLink RX8 44 RX1, Cond.instantiable RX1 2, Cond.initialized RX1, Cond.fieldLink RX8 47 "HoneyHouse" "draught" "LHoneyHouse$Draught;", Cond.classLink RX8 51 RX0, Cond.instantiable RX0 14]
def wsX8_init_r2 : List Cond := [Cond.initialized RX0, Cond.fieldLink RX8 54 "HoneyHouse" "blender" "LHoneyHouse$Blender;", Cond.arrayClass .int, Cond.fieldLink RX8 58 "HoneyHouse" "verdicts" "[I", Cond.fieldLink RX8 62 "HoneyHouse" "foundBatches" "[I", Cond.instantiable RX7 5, Cond.initialized RX7, Cond.instanceMethod yX5_init, Cond.code yX5_init cX5_init 1 none, Cond.methodLink RX5 3 objectInit, Cond.fieldLink RX5 9 "HoneyHouse$Steps" "waters" "[I", Cond.fieldLink RX5 15 "HoneyHouse$Steps" "prices" "[I", Cond.instanceMethod yX4_init, Cond.code yX4_init cX4_init 1 none, Cond.methodLink RX4 3 objectInit, Cond.classLink RX4 9 RX6, Cond.instantiable RX6 5, Cond.initialized RX6, Cond.fieldLink RX4 12 "HoneyHouse$RuleReader" "tape" "LHoneyHouse$Tape;", Cond.fieldLink RX4 18 "HoneyHouse$RuleReader" "faultPlace" "I", Cond.fieldLink RX4 22 "HoneyHouse$RuleReader" "codes" "[I", Cond.instanceMethod yX6_init, Cond.code yX6_init cX6_init 1 none, Cond.methodLink RX6 3 objectInit]
def wsX8_init_r3 : List Cond := [Cond.fieldLink RX6 9 "HoneyHouse$Tape" "bytes" "[I", Cond.instanceMethod yX1_init, Cond.code yX1_init cX1_init 1 none, Cond.methodLink RX1 3 objectInit, Cond.fieldLink RX1 9 "HoneyHouse$Draught" "grams" "[I", Cond.arrayClass .long, Cond.fieldLink RX1 15 "HoneyHouse$Draught" "rests" "[J", Cond.instanceMethod yX0_init, Cond.code yX0_init cX0_init 1 none, Cond.methodLink RX0 3 objectInit, Cond.fieldLink RX0 9 "HoneyHouse$Blender" "toldParts" "[I", Cond.fieldLink RX0 15 "HoneyHouse$Blender" "tankNumbers" "[I", Cond.fieldLink RX0 18 "HoneyHouse$Blender" "mostParts" "[I", Cond.fieldLink RX0 21 "HoneyHouse$Blender" "waters" "[I", Cond.fieldLink RX0 24 "HoneyHouse$Blender" "colours" "[I", Cond.fieldLink RX0 27 "HoneyHouse$Blender" "prices" "[I", Cond.fieldLink RX0 30 "HoneyHouse$Blender" "best" "[I", Cond.methodLink RX8 65 yX7_init, Cond.instanceMethod yX7_init, Cond.code yX7_init cX7_init 3 none, Cond.methodLink RX7 3 objectInit, Cond.fieldLink RX7 9 "HoneyHouse$Vessel" "grams" "[I", Cond.fieldLink RX7 15 "HoneyHouse$Vessel" "roomOrTank" "I", Cond.fieldLink RX7 19 "HoneyHouse$Vessel" "priceOrDay" "I"]
def wsX8_init : List Cond := .code yX8_init cX8_init 2 none :: ((wsX8_init_r1 ++ (wsX8_init_r2 ++ wsX8_init_r3)) ++ wsX80 ++ wsX50 ++ wsX40 ++ wsX10 ++ wsX00 ++ wsX70 ++ wsX60)
def wsX8_feed : List Cond := .code yX8_feed cX8_feed 7 (some .int) :: ([.fieldLink RX8 40 "HoneyHouse" "reader" "LHoneyHouse$RuleReader;", .fieldLink RX8 68 "HoneyHouse$RuleReader" "tape" "LHoneyHouse$Tape;", .fieldLink RX8 72 "HoneyHouse$Tape" "length" "I", .methodLink RX8 78 yX6_append, .instanceMethod yX6_append, .selects RX6 yX6_append yX6_append, .initialized RX6, .code yX6_append cX6_append 3 none, .fieldLink RX6 15 "HoneyHouse$Tape" "length" "I", .fieldLink RX6 9 "HoneyHouse$Tape" "bytes" "[I"] ++ wsX80 ++ wsX40 ++ wsX60)
def wsX8_end : List Cond := .code yX8_end cX8_end 2 (some .boolean) :: ([.fieldLink RX8 40 "HoneyHouse" "reader" "LHoneyHouse$RuleReader;", .fieldLink RX8 68 "HoneyHouse$RuleReader" "tape" "LHoneyHouse$Tape;", .fieldLink RX8 72 "HoneyHouse$Tape" "length" "I"] ++ wsX80 ++ wsX40 ++ wsX60)
def wsX8_today : List Cond := .code yX8_today cX8_today 2 (some .boolean) :: ([.fieldLink RX8 82 "HoneyHouse" "dayNow" "I"] ++ wsX80)
def wsX8_lot_r1 : List Cond := [Cond.constant RX8 89 (200000), Cond.fieldLink RX8 90 "HoneyHouse" "lotCount" "I", Cond.fieldLink RX8 11 "HoneyHouse" "lots" "[LHoneyHouse$Lot;", Cond.classLink RX8 9 RX2, Cond.instantiable RX2 10, Cond.initialized RX2, Cond.fieldLink RX8 33 "HoneyHouse" "stepsNow" "LHoneyHouse$Steps;", Cond.methodLink RX8 85 yX8_isIn, Cond.static yX8_isIn, Cond.initialized RX8, Cond.code yX8_isIn cX8_isIn 3 (some .boolean), Cond.methodLink RX8 93 yX2_init, Cond.instanceMethod yX2_init, Cond.code yX2_init cX2_init 7 none, Cond.methodLink RX2 3 objectInit, Cond.instanceMethod objectInit, Cond.code objectInit ⟨#[0xb1]⟩ 1 none, Cond.arrayClass .int, Cond.fieldLink RX2 9 "HoneyHouse$Lot" "low" "[I", Cond.fieldLink RX2 15 "HoneyHouse$Lot" "high" "[I", Cond.classLink RX2 18 RX5, Cond.instantiable RX5 2, Cond.initialized RX5, Cond.fieldLink RX2 21 "HoneyHouse$Lot" "steps" "LHoneyHouse$Steps;"]
def wsX8_lot_r2 : List Cond := [Cond.fieldLink RX2 25 "HoneyHouse$Lot" "keeper" "I", Cond.fieldLink RX2 29 "HoneyHouse$Lot" "grams" "I", Cond.fieldLink RX2 32 "HoneyHouse$Lot" "water" "I", Cond.fieldLink RX2 35 "HoneyHouse$Lot" "colour" "I", Cond.fieldLink RX2 38 "HoneyHouse$Lot" "land" "I", Cond.fieldLink RX2 51 "HoneyHouse$Lot" "left" "I", Cond.fieldLink RX2 58 "HoneyHouse$Lot" "pay" "I", Cond.instanceMethod yX5_init, Cond.code yX5_init cX5_init 1 none, Cond.methodLink RX5 3 objectInit, Cond.fieldLink RX5 9 "HoneyHouse$Steps" "waters" "[I", Cond.fieldLink RX5 15 "HoneyHouse$Steps" "prices" "[I", Cond.methodLink RX2 41 yJ7_fill_53178, Cond.static yJ7_fill_53178, Cond.initialized RJ7, Cond.code yJ7_fill_53178 cJ7_fill_53178 4 none, Cond.methodLink RX2 47 yX5_copyFrom, Cond.instanceMethod yX5_copyFrom, Cond.selects RX5 yX5_copyFrom yX5_copyFrom, Cond.code yX5_copyFrom cX5_copyFrom 2 none, Cond.methodLink RX5 18 arraycopyName, Cond.native arraycopyName, Cond.static arraycopyName, Cond.initialized "java/lang/System"]
def wsX8_lot_r3 : List Cond := [Cond.methodLink RX2 54 yX5_payFor, Cond.instanceMethod yX5_payFor, Cond.selects RX5 yX5_payFor yX5_payFor, Cond.code yX5_payFor cX5_payFor 4 (some .int), Cond.constantLong RX5 24 (1000)]
def wsX8_lot : List Cond := .code yX8_lot cX8_lot 7 (some .int) :: ((wsX8_lot_r1 ++ (wsX8_lot_r2 ++ wsX8_lot_r3)) ++ wsX80 ++ wsX20 ++ wsX50)
def wsX8_lotAt : List Cond := .code yX8_lotAt cX8_lotAt 2 (some (.object "HoneyHouse$Lot")) :: ([.fieldLink RX8 11 "HoneyHouse" "lots" "[LHoneyHouse$Lot;", .methodLink RX8 85 yX8_isIn, .static yX8_isIn, .initialized RX8, .code yX8_isIn cX8_isIn 3 (some .boolean)] ++ wsX80)
def wsX8_sumWith : List Cond := .code yX8_sumWith cX8_sumWith 5 (some .int) :: ([])
def wsX8_pollen : List Cond := .code yX8_pollen cX8_pollen 6 (some .boolean) :: ([.fieldLink RX8 100 "HoneyHouse$Lot" "low" "[I", .fieldLink RX8 107 "HoneyHouse$Lot" "high" "[I", .methodLink RX8 96 yX8_lotAt, .instanceMethod yX8_lotAt, .selects RX8 yX8_lotAt yX8_lotAt, .initialized RX8, .code yX8_lotAt cX8_lotAt 2 (some (.object "HoneyHouse$Lot")), .fieldLink RX8 11 "HoneyHouse" "lots" "[LHoneyHouse$Lot;", .methodLink RX8 85 yX8_isIn, .static yX8_isIn, .code yX8_isIn cX8_isIn 3 (some .boolean), .methodLink RX8 103 yX8_sumWith, .static yX8_sumWith, .code yX8_sumWith cX8_sumWith 5 (some .int)] ++ wsX20 ++ wsX80)
def wsX8_test : List Cond := .code yX8_test cX8_test 5 (some .int) :: ([.constant RX8 110 (-1000000000), .fieldLink RX8 111 "HoneyHouse$Lot" "pay" "I", .fieldLink RX8 114 "HoneyHouse$Lot" "water" "I", .fieldLink RX8 117 "HoneyHouse$Lot" "steps" "LHoneyHouse$Steps;", .fieldLink RX8 120 "HoneyHouse$Lot" "grams" "I", .methodLink RX8 96 yX8_lotAt, .instanceMethod yX8_lotAt, .selects RX8 yX8_lotAt yX8_lotAt, .initialized RX8, .code yX8_lotAt cX8_lotAt 2 (some (.object "HoneyHouse$Lot")), .fieldLink RX8 11 "HoneyHouse" "lots" "[LHoneyHouse$Lot;", .methodLink RX8 85 yX8_isIn, .static yX8_isIn, .code yX8_isIn cX8_isIn 3 (some .boolean), .methodLink RX8 123 yX5_payFor, .instanceMethod yX5_payFor, .selects RX5 yX5_payFor yX5_payFor, .initialized RX5, .code yX5_payFor cX5_payFor 4 (some .int), .fieldLink RX5 9 "HoneyHouse$Steps" "waters" "[I", .fieldLink RX5 15 "HoneyHouse$Steps" "prices" "[I", .constantLong RX5 24 (1000)] ++ wsX20 ++ wsX80 ++ wsX50)
def wsX8_of : List Cond := .code yX8_of cX8_of 4 (some .int) :: ([.fieldLink RX8 127 "HoneyHouse$Lot" "keeper" "I", .fieldLink RX8 120 "HoneyHouse$Lot" "grams" "I", .fieldLink RX8 114 "HoneyHouse$Lot" "water" "I", .fieldLink RX8 130 "HoneyHouse$Lot" "colour" "I", .fieldLink RX8 133 "HoneyHouse$Lot" "land" "I", .fieldLink RX8 136 "HoneyHouse$Lot" "left" "I", .fieldLink RX8 111 "HoneyHouse$Lot" "pay" "I", .methodLink RX8 96 yX8_lotAt, .instanceMethod yX8_lotAt, .selects RX8 yX8_lotAt yX8_lotAt, .initialized RX8, .code yX8_lotAt cX8_lotAt 2 (some (.object "HoneyHouse$Lot")), .fieldLink RX8 11 "HoneyHouse" "lots" "[LHoneyHouse$Lot;", .methodLink RX8 85 yX8_isIn, .static yX8_isIn, .code yX8_isIn cX8_isIn 3 (some .boolean)] ++ wsX20 ++ wsX80)
def wsX8_span : List Cond := .code yX8_span cX8_span 5 (some .int) :: ([.fieldLink RX8 100 "HoneyHouse$Lot" "low" "[I", .fieldLink RX8 107 "HoneyHouse$Lot" "high" "[I", .methodLink RX8 96 yX8_lotAt, .instanceMethod yX8_lotAt, .selects RX8 yX8_lotAt yX8_lotAt, .initialized RX8, .code yX8_lotAt cX8_lotAt 2 (some (.object "HoneyHouse$Lot")), .fieldLink RX8 11 "HoneyHouse" "lots" "[LHoneyHouse$Lot;", .methodLink RX8 85 yX8_isIn, .static yX8_isIn, .code yX8_isIn cX8_isIn 3 (some .boolean)] ++ wsX20 ++ wsX80)
def wsX8_tankAt : List Cond := .code yX8_tankAt cX8_tankAt 2 (some (.object "HoneyHouse$Vessel")) :: ([.fieldLink RX8 17 "HoneyHouse" "tanks" "[LHoneyHouse$Vessel;", .methodLink RX8 85 yX8_isIn, .static yX8_isIn, .initialized RX8, .code yX8_isIn cX8_isIn 3 (some .boolean)] ++ wsX80)
def wsX8_tank : List Cond := .code yX8_tank cX8_tank 5 (some .boolean) :: ([.constant RX8 143 (1000000), .fieldLink RX8 144 "HoneyHouse$Vessel" "total" "I", .fieldLink RX8 147 "HoneyHouse$Vessel" "roomOrTank" "I", .fieldLink RX8 150 "HoneyHouse$Vessel" "priceOrDay" "I", .methodLink RX8 139 yX8_tankAt, .instanceMethod yX8_tankAt, .selects RX8 yX8_tankAt yX8_tankAt, .initialized RX8, .code yX8_tankAt cX8_tankAt 2 (some (.object "HoneyHouse$Vessel")), .fieldLink RX8 17 "HoneyHouse" "tanks" "[LHoneyHouse$Vessel;", .methodLink RX8 85 yX8_isIn, .static yX8_isIn, .code yX8_isIn cX8_isIn 3 (some .boolean)] ++ wsX70 ++ wsX80)
def wsX8_pour_r1 : List Cond := [Cond.fieldLink RX8 136 "HoneyHouse$Lot" "left" "I", Cond.methodLink RX8 96 yX8_lotAt, Cond.instanceMethod yX8_lotAt, Cond.selects RX8 yX8_lotAt yX8_lotAt, Cond.initialized RX8, Cond.code yX8_lotAt cX8_lotAt 2 (some (.object "HoneyHouse$Lot")), Cond.fieldLink RX8 11 "HoneyHouse" "lots" "[LHoneyHouse$Lot;", Cond.methodLink RX8 85 yX8_isIn, Cond.static yX8_isIn, Cond.code yX8_isIn cX8_isIn 3 (some .boolean), Cond.methodLink RX8 139 yX8_tankAt, Cond.instanceMethod yX8_tankAt, Cond.selects RX8 yX8_tankAt yX8_tankAt, Cond.code yX8_tankAt cX8_tankAt 2 (some (.object "HoneyHouse$Vessel")), Cond.fieldLink RX8 17 "HoneyHouse" "tanks" "[LHoneyHouse$Vessel;", Cond.methodLink RX8 153 yX7_hasRoomFor, Cond.instanceMethod yX7_hasRoomFor, Cond.selects RX7 yX7_hasRoomFor yX7_hasRoomFor, Cond.initialized RX7, Cond.code yX7_hasRoomFor cX7_hasRoomFor 2 (some .boolean), Cond.fieldLink RX7 15 "HoneyHouse$Vessel" "roomOrTank" "I", Cond.fieldLink RX7 22 "HoneyHouse$Vessel" "total" "I", Cond.methodLink RX8 157 yX7_addGrams, Cond.instanceMethod yX7_addGrams]
def wsX8_pour_r2 : List Cond := [Cond.selects RX7 yX7_addGrams yX7_addGrams, Cond.code yX7_addGrams cX7_addGrams 3 none, Cond.fieldLink RX7 9 "HoneyHouse$Vessel" "grams" "[I"]
def wsX8_pour : List Cond := .code yX8_pour cX8_pour 6 (some .int) :: ((wsX8_pour_r1 ++ wsX8_pour_r2) ++ wsX20 ++ wsX80 ++ wsX70)
def wsX8_move_r1 : List Cond := [Cond.fieldLink RX8 144 "HoneyHouse$Vessel" "total" "I", Cond.fieldLink RX8 160 "HoneyHouse$Vessel" "heat" "I", Cond.fieldLink RX8 47 "HoneyHouse" "draught" "LHoneyHouse$Draught;", Cond.methodLink RX8 139 yX8_tankAt, Cond.instanceMethod yX8_tankAt, Cond.selects RX8 yX8_tankAt yX8_tankAt, Cond.initialized RX8, Cond.code yX8_tankAt cX8_tankAt 2 (some (.object "HoneyHouse$Vessel")), Cond.fieldLink RX8 17 "HoneyHouse" "tanks" "[LHoneyHouse$Vessel;", Cond.methodLink RX8 85 yX8_isIn, Cond.static yX8_isIn, Cond.code yX8_isIn cX8_isIn 3 (some .boolean), Cond.methodLink RX8 153 yX7_hasRoomFor, Cond.instanceMethod yX7_hasRoomFor, Cond.selects RX7 yX7_hasRoomFor yX7_hasRoomFor, Cond.initialized RX7, Cond.code yX7_hasRoomFor cX7_hasRoomFor 2 (some .boolean), Cond.fieldLink RX7 15 "HoneyHouse$Vessel" "roomOrTank" "I", Cond.fieldLink RX7 22 "HoneyHouse$Vessel" "total" "I", Cond.methodLink RX8 163 yX1_drawFrom, Cond.instanceMethod yX1_drawFrom, Cond.selects RX1 yX1_drawFrom yX1_drawFrom, Cond.initialized RX1, Cond.code yX1_drawFrom cX1_drawFrom 4 none]
def wsX8_move_r2 : List Cond := [Cond.fieldLink RX1 9 "HoneyHouse$Draught" "grams" "[I", Cond.fieldLink RX1 29 "HoneyHouse$Vessel" "total" "I", Cond.fieldLink RX1 33 "HoneyHouse$Vessel" "heat" "I", Cond.methodLink RX1 19 yX1_shareOut, Cond.instanceMethod yX1_shareOut, Cond.selects RX1 yX1_shareOut yX1_shareOut, Cond.code yX1_shareOut cX1_shareOut 7 none, Cond.fieldLink RX1 15 "HoneyHouse$Draught" "rests" "[J", Cond.constantLong RX1 56 (-1), Cond.methodLink RX1 42 yJ7_fill_53178, Cond.static yJ7_fill_53178, Cond.initialized RJ7, Cond.code yJ7_fill_53178 cJ7_fill_53178 4 none, Cond.methodLink RX1 48 yX7_gramsOf, Cond.instanceMethod yX7_gramsOf, Cond.selects RX7 yX7_gramsOf yX7_gramsOf, Cond.code yX7_gramsOf cX7_gramsOf 2 (some .int), Cond.fieldLink RX7 9 "HoneyHouse$Vessel" "grams" "[I", Cond.methodLink RX1 52 yX1_greatestRest, Cond.instanceMethod yX1_greatestRest, Cond.selects RX1 yX1_greatestRest yX1_greatestRest, Cond.code yX1_greatestRest cX1_greatestRest 3 (some .int), Cond.methodLink RX1 23 yX7_addGrams, Cond.instanceMethod yX7_addGrams]
def wsX8_move_r3 : List Cond := [Cond.selects RX7 yX7_addGrams yX7_addGrams, Cond.code yX7_addGrams cX7_addGrams 3 none, Cond.methodLink RX8 167 yX1_fillInto, Cond.instanceMethod yX1_fillInto, Cond.selects RX1 yX1_fillInto yX1_fillInto, Cond.code yX1_fillInto cX1_fillInto 4 none, Cond.methodLink RX1 36 Lib.Math.max.name, Cond.static Lib.Math.max.name, Cond.initialized "java/lang/Math", Cond.code Lib.Math.max.name Lib.Math.max.code 2 (some .int)]
def wsX8_move : List Cond := .code yX8_move cX8_move 7 (some .int) :: ((wsX8_move_r1 ++ (wsX8_move_r2 ++ wsX8_move_r3)) ++ wsX70 ++ wsX80 ++ wsX10)
def wsX8_warm : List Cond := .code yX8_warm cX8_warm 4 (some .int) :: ([.fieldLink RX8 144 "HoneyHouse$Vessel" "total" "I", .fieldLink RX8 160 "HoneyHouse$Vessel" "heat" "I", .methodLink RX8 139 yX8_tankAt, .instanceMethod yX8_tankAt, .selects RX8 yX8_tankAt yX8_tankAt, .initialized RX8, .code yX8_tankAt cX8_tankAt 2 (some (.object "HoneyHouse$Vessel")), .fieldLink RX8 17 "HoneyHouse" "tanks" "[LHoneyHouse$Vessel;", .methodLink RX8 85 yX8_isIn, .static yX8_isIn, .code yX8_isIn cX8_isIn 3 (some .boolean)] ++ wsX70 ++ wsX80)
def wsX8_jar_r1 : List Cond := [Cond.fieldLink RX8 144 "HoneyHouse$Vessel" "total" "I", Cond.fieldLink RX8 170 "HoneyHouse" "batchCount" "I", Cond.fieldLink RX8 21 "HoneyHouse" "batches" "[LHoneyHouse$Vessel;", Cond.classLink RX8 15 RX7, Cond.instantiable RX7 5, Cond.initialized RX7, Cond.fieldLink RX8 82 "HoneyHouse" "dayNow" "I", Cond.fieldLink RX8 160 "HoneyHouse$Vessel" "heat" "I", Cond.fieldLink RX8 47 "HoneyHouse" "draught" "LHoneyHouse$Draught;", Cond.methodLink RX8 139 yX8_tankAt, Cond.instanceMethod yX8_tankAt, Cond.selects RX8 yX8_tankAt yX8_tankAt, Cond.initialized RX8, Cond.code yX8_tankAt cX8_tankAt 2 (some (.object "HoneyHouse$Vessel")), Cond.fieldLink RX8 17 "HoneyHouse" "tanks" "[LHoneyHouse$Vessel;", Cond.methodLink RX8 85 yX8_isIn, Cond.static yX8_isIn, Cond.code yX8_isIn cX8_isIn 3 (some .boolean), Cond.methodLink RX8 65 yX7_init, Cond.instanceMethod yX7_init, Cond.code yX7_init cX7_init 3 none, Cond.methodLink RX7 3 objectInit, Cond.instanceMethod objectInit, Cond.code objectInit ⟨#[0xb1]⟩ 1 none]
def wsX8_jar_r2 : List Cond := [Cond.arrayClass .int, Cond.fieldLink RX7 9 "HoneyHouse$Vessel" "grams" "[I", Cond.fieldLink RX7 15 "HoneyHouse$Vessel" "roomOrTank" "I", Cond.fieldLink RX7 19 "HoneyHouse$Vessel" "priceOrDay" "I", Cond.methodLink RX8 163 yX1_drawFrom, Cond.instanceMethod yX1_drawFrom, Cond.selects RX1 yX1_drawFrom yX1_drawFrom, Cond.initialized RX1, Cond.code yX1_drawFrom cX1_drawFrom 4 none, Cond.fieldLink RX1 9 "HoneyHouse$Draught" "grams" "[I", Cond.fieldLink RX1 29 "HoneyHouse$Vessel" "total" "I", Cond.fieldLink RX1 33 "HoneyHouse$Vessel" "heat" "I", Cond.methodLink RX1 19 yX1_shareOut, Cond.instanceMethod yX1_shareOut, Cond.selects RX1 yX1_shareOut yX1_shareOut, Cond.code yX1_shareOut cX1_shareOut 7 none, Cond.fieldLink RX1 15 "HoneyHouse$Draught" "rests" "[J", Cond.constantLong RX1 56 (-1), Cond.methodLink RX1 42 yJ7_fill_53178, Cond.static yJ7_fill_53178, Cond.initialized RJ7, Cond.code yJ7_fill_53178 cJ7_fill_53178 4 none, Cond.methodLink RX1 48 yX7_gramsOf, Cond.instanceMethod yX7_gramsOf]
def wsX8_jar_r3 : List Cond := [Cond.selects RX7 yX7_gramsOf yX7_gramsOf, Cond.code yX7_gramsOf cX7_gramsOf 2 (some .int), Cond.methodLink RX1 52 yX1_greatestRest, Cond.instanceMethod yX1_greatestRest, Cond.selects RX1 yX1_greatestRest yX1_greatestRest, Cond.code yX1_greatestRest cX1_greatestRest 3 (some .int), Cond.methodLink RX1 23 yX7_addGrams, Cond.instanceMethod yX7_addGrams, Cond.selects RX7 yX7_addGrams yX7_addGrams, Cond.code yX7_addGrams cX7_addGrams 3 none, Cond.fieldLink RX7 22 "HoneyHouse$Vessel" "total" "I", Cond.methodLink RX8 167 yX1_fillInto, Cond.instanceMethod yX1_fillInto, Cond.selects RX1 yX1_fillInto yX1_fillInto, Cond.code yX1_fillInto cX1_fillInto 4 none, Cond.methodLink RX1 36 Lib.Math.max.name, Cond.static Lib.Math.max.name, Cond.initialized "java/lang/Math", Cond.code Lib.Math.max.name Lib.Math.max.code 2 (some .int)]
def wsX8_jar : List Cond := .code yX8_jar cX8_jar 6 (some .int) :: ((wsX8_jar_r1 ++ (wsX8_jar_r2 ++ wsX8_jar_r3)) ++ wsX70 ++ wsX80 ++ wsX10)
def wsX8_spill_r1 : List Cond := [Cond.fieldLink RX8 144 "HoneyHouse$Vessel" "total" "I", Cond.fieldLink RX8 47 "HoneyHouse" "draught" "LHoneyHouse$Draught;", Cond.methodLink RX8 139 yX8_tankAt, Cond.instanceMethod yX8_tankAt, Cond.selects RX8 yX8_tankAt yX8_tankAt, Cond.initialized RX8, Cond.code yX8_tankAt cX8_tankAt 2 (some (.object "HoneyHouse$Vessel")), Cond.fieldLink RX8 17 "HoneyHouse" "tanks" "[LHoneyHouse$Vessel;", Cond.methodLink RX8 85 yX8_isIn, Cond.static yX8_isIn, Cond.code yX8_isIn cX8_isIn 3 (some .boolean), Cond.methodLink RX8 163 yX1_drawFrom, Cond.instanceMethod yX1_drawFrom, Cond.selects RX1 yX1_drawFrom yX1_drawFrom, Cond.initialized RX1, Cond.code yX1_drawFrom cX1_drawFrom 4 none, Cond.fieldLink RX1 9 "HoneyHouse$Draught" "grams" "[I", Cond.fieldLink RX1 29 "HoneyHouse$Vessel" "total" "I", Cond.fieldLink RX1 33 "HoneyHouse$Vessel" "heat" "I", Cond.methodLink RX1 19 yX1_shareOut, Cond.instanceMethod yX1_shareOut, Cond.selects RX1 yX1_shareOut yX1_shareOut, Cond.code yX1_shareOut cX1_shareOut 7 none, Cond.fieldLink RX1 15 "HoneyHouse$Draught" "rests" "[J"]
def wsX8_spill_r2 : List Cond := [Cond.constantLong RX1 56 (-1), Cond.methodLink RX1 42 yJ7_fill_53178, Cond.static yJ7_fill_53178, Cond.initialized RJ7, Cond.code yJ7_fill_53178 cJ7_fill_53178 4 none, Cond.methodLink RX1 48 yX7_gramsOf, Cond.instanceMethod yX7_gramsOf, Cond.selects RX7 yX7_gramsOf yX7_gramsOf, Cond.initialized RX7, Cond.code yX7_gramsOf cX7_gramsOf 2 (some .int), Cond.fieldLink RX7 9 "HoneyHouse$Vessel" "grams" "[I", Cond.methodLink RX1 52 yX1_greatestRest, Cond.instanceMethod yX1_greatestRest, Cond.selects RX1 yX1_greatestRest yX1_greatestRest, Cond.code yX1_greatestRest cX1_greatestRest 3 (some .int), Cond.methodLink RX1 23 yX7_addGrams, Cond.instanceMethod yX7_addGrams, Cond.selects RX7 yX7_addGrams yX7_addGrams, Cond.code yX7_addGrams cX7_addGrams 3 none, Cond.fieldLink RX7 22 "HoneyHouse$Vessel" "total" "I"]
def wsX8_spill : List Cond := .code yX8_spill cX8_spill 4 (some .int) :: ((wsX8_spill_r1 ++ wsX8_spill_r2) ++ wsX70 ++ wsX80 ++ wsX10)
def wsX8_vesselAt : List Cond := .code yX8_vesselAt cX8_vesselAt 3 (some (.object "HoneyHouse$Vessel")) :: ([.fieldLink RX8 21 "HoneyHouse" "batches" "[LHoneyHouse$Vessel;", .methodLink RX8 139 yX8_tankAt, .instanceMethod yX8_tankAt, .selects RX8 yX8_tankAt yX8_tankAt, .initialized RX8, .code yX8_tankAt cX8_tankAt 2 (some (.object "HoneyHouse$Vessel")), .fieldLink RX8 17 "HoneyHouse" "tanks" "[LHoneyHouse$Vessel;", .methodLink RX8 85 yX8_isIn, .static yX8_isIn, .code yX8_isIn cX8_isIn 3 (some .boolean)] ++ wsX80)
def wsX8_holds : List Cond := .code yX8_holds cX8_holds 5 (some .int) :: ([.fieldLink RX8 144 "HoneyHouse$Vessel" "total" "I", .fieldLink RX8 160 "HoneyHouse$Vessel" "heat" "I", .fieldLink RX8 147 "HoneyHouse$Vessel" "roomOrTank" "I", .fieldLink RX8 150 "HoneyHouse$Vessel" "priceOrDay" "I", .methodLink RX8 173 yX8_vesselAt, .instanceMethod yX8_vesselAt, .selects RX8 yX8_vesselAt yX8_vesselAt, .initialized RX8, .code yX8_vesselAt cX8_vesselAt 3 (some (.object "HoneyHouse$Vessel")), .fieldLink RX8 21 "HoneyHouse" "batches" "[LHoneyHouse$Vessel;", .methodLink RX8 139 yX8_tankAt, .instanceMethod yX8_tankAt, .selects RX8 yX8_tankAt yX8_tankAt, .code yX8_tankAt cX8_tankAt 2 (some (.object "HoneyHouse$Vessel")), .fieldLink RX8 17 "HoneyHouse" "tanks" "[LHoneyHouse$Vessel;", .methodLink RX8 85 yX8_isIn, .static yX8_isIn, .code yX8_isIn cX8_isIn 3 (some .boolean), .methodLink RX8 177 yX7_lotsInIt, .instanceMethod yX7_lotsInIt, .selects RX7 yX7_lotsInIt yX7_lotsInIt, .initialized RX7, .code yX7_lotsInIt cX7_lotsInIt 3 (some .int), .fieldLink RX7 9 "HoneyHouse$Vessel" "grams" "[I"] ++ wsX70 ++ wsX80)
def wsX8_part_r1 : List Cond := [Cond.methodLink RX8 173 yX8_vesselAt, Cond.instanceMethod yX8_vesselAt, Cond.selects RX8 yX8_vesselAt yX8_vesselAt, Cond.initialized RX8, Cond.code yX8_vesselAt cX8_vesselAt 3 (some (.object "HoneyHouse$Vessel")), Cond.fieldLink RX8 21 "HoneyHouse" "batches" "[LHoneyHouse$Vessel;", Cond.methodLink RX8 139 yX8_tankAt, Cond.instanceMethod yX8_tankAt, Cond.selects RX8 yX8_tankAt yX8_tankAt, Cond.code yX8_tankAt cX8_tankAt 2 (some (.object "HoneyHouse$Vessel")), Cond.fieldLink RX8 17 "HoneyHouse" "tanks" "[LHoneyHouse$Vessel;", Cond.methodLink RX8 85 yX8_isIn, Cond.static yX8_isIn, Cond.code yX8_isIn cX8_isIn 3 (some .boolean), Cond.methodLink RX8 96 yX8_lotAt, Cond.instanceMethod yX8_lotAt, Cond.selects RX8 yX8_lotAt yX8_lotAt, Cond.code yX8_lotAt cX8_lotAt 2 (some (.object "HoneyHouse$Lot")), Cond.fieldLink RX8 11 "HoneyHouse" "lots" "[LHoneyHouse$Lot;", Cond.methodLink RX8 181 yX7_gramsOf, Cond.instanceMethod yX7_gramsOf, Cond.selects RX7 yX7_gramsOf yX7_gramsOf, Cond.initialized RX7, Cond.code yX7_gramsOf cX7_gramsOf 2 (some .int)]
def wsX8_part_r2 : List Cond := [Cond.fieldLink RX7 9 "HoneyHouse$Vessel" "grams" "[I"]
def wsX8_part : List Cond := .code yX8_part cX8_part 5 (some .int) :: ((wsX8_part_r1 ++ wsX8_part_r2) ++ wsX80 ++ wsX70)
def wsX8_isMeasure : List Cond := .code yX8_isMeasure cX8_isMeasure 1 (some .boolean) :: ([.methodLink RX8 85 yX8_isIn, .static yX8_isIn, .initialized RX8, .code yX8_isIn cX8_isIn 3 (some .boolean), .methodLink RX8 279 yX8_isPollenLow, .static yX8_isPollenLow, .code yX8_isPollenLow cX8_isPollenLow 1 (some .boolean), .methodLink RX8 282 yX8_isPollenHigh, .static yX8_isPollenHigh, .code yX8_isPollenHigh cX8_isPollenHigh 1 (some .boolean)])
def wsX8_weighed_r1 : List Cond := [Cond.fieldLink RX8 160 "HoneyHouse$Vessel" "heat" "I", Cond.fieldLink RX8 144 "HoneyHouse$Vessel" "total" "I", Cond.fieldLink RX8 90 "HoneyHouse" "lotCount" "I", Cond.fieldLink RX8 11 "HoneyHouse" "lots" "[LHoneyHouse$Lot;", Cond.methodLink RX8 181 yX7_gramsOf, Cond.instanceMethod yX7_gramsOf, Cond.selects RX7 yX7_gramsOf yX7_gramsOf, Cond.initialized RX7, Cond.code yX7_gramsOf cX7_gramsOf 2 (some .int), Cond.fieldLink RX7 9 "HoneyHouse$Vessel" "grams" "[I", Cond.methodLink RX8 285 yX2_perGram, Cond.instanceMethod yX2_perGram, Cond.selects RX2 yX2_perGram yX2_perGram, Cond.initialized RX2, Cond.code yX2_perGram cX2_perGram 2 (some .int), Cond.fieldLink RX2 32 "HoneyHouse$Lot" "water" "I", Cond.fieldLink RX2 35 "HoneyHouse$Lot" "colour" "I", Cond.fieldLink RX2 9 "HoneyHouse$Lot" "low" "[I", Cond.fieldLink RX2 15 "HoneyHouse$Lot" "high" "[I", Cond.fieldLink RX2 38 "HoneyHouse$Lot" "land" "I", Cond.static yX8_isPollenLow, Cond.initialized RX8, Cond.code yX8_isPollenLow cX8_isPollenLow 1 (some .boolean), Cond.methodLink RX8 85 yX8_isIn]
def wsX8_weighed_r2 : List Cond := [Cond.static yX8_isIn, Cond.code yX8_isIn cX8_isIn 3 (some .boolean), Cond.static yX8_isPollenHigh, Cond.code yX8_isPollenHigh cX8_isPollenHigh 1 (some .boolean)]
def wsX8_weighed : List Cond := .code yX8_weighed cX8_weighed 7 (some .long) :: ((wsX8_weighed_r1 ++ wsX8_weighed_r2) ++ wsX70 ++ wsX80 ++ wsX20)
def wsX8_told_r1 : List Cond := [Cond.fieldLink RX8 144 "HoneyHouse$Vessel" "total" "I", Cond.fieldLink RX8 160 "HoneyHouse$Vessel" "heat" "I", Cond.constantLong RX8 288 (10), Cond.methodLink RX8 290 yX8_weighed, Cond.instanceMethod yX8_weighed, Cond.selects RX8 yX8_weighed yX8_weighed, Cond.initialized RX8, Cond.code yX8_weighed cX8_weighed 7 (some .long), Cond.fieldLink RX8 90 "HoneyHouse" "lotCount" "I", Cond.fieldLink RX8 11 "HoneyHouse" "lots" "[LHoneyHouse$Lot;", Cond.methodLink RX8 181 yX7_gramsOf, Cond.instanceMethod yX7_gramsOf, Cond.selects RX7 yX7_gramsOf yX7_gramsOf, Cond.initialized RX7, Cond.code yX7_gramsOf cX7_gramsOf 2 (some .int), Cond.fieldLink RX7 9 "HoneyHouse$Vessel" "grams" "[I", Cond.methodLink RX8 285 yX2_perGram, Cond.instanceMethod yX2_perGram, Cond.selects RX2 yX2_perGram yX2_perGram, Cond.initialized RX2, Cond.code yX2_perGram cX2_perGram 2 (some .int), Cond.fieldLink RX2 32 "HoneyHouse$Lot" "water" "I", Cond.fieldLink RX2 35 "HoneyHouse$Lot" "colour" "I", Cond.fieldLink RX2 9 "HoneyHouse$Lot" "low" "[I"]
def wsX8_told_r2 : List Cond := [Cond.fieldLink RX2 15 "HoneyHouse$Lot" "high" "[I", Cond.fieldLink RX2 38 "HoneyHouse$Lot" "land" "I", Cond.static yX8_isPollenLow, Cond.code yX8_isPollenLow cX8_isPollenLow 1 (some .boolean), Cond.methodLink RX8 85 yX8_isIn, Cond.static yX8_isIn, Cond.code yX8_isIn cX8_isIn 3 (some .boolean), Cond.static yX8_isPollenHigh, Cond.code yX8_isPollenHigh cX8_isPollenHigh 1 (some .boolean)]
def wsX8_told : List Cond := .code yX8_told cX8_told 3 (some .int) :: ((wsX8_told_r1 ++ wsX8_told_r2) ++ wsX70 ++ wsX80 ++ wsX20)
def wsX8_measure_r1 : List Cond := [Cond.methodLink RX8 173 yX8_vesselAt, Cond.instanceMethod yX8_vesselAt, Cond.selects RX8 yX8_vesselAt yX8_vesselAt, Cond.initialized RX8, Cond.code yX8_vesselAt cX8_vesselAt 3 (some (.object "HoneyHouse$Vessel")), Cond.fieldLink RX8 21 "HoneyHouse" "batches" "[LHoneyHouse$Vessel;", Cond.methodLink RX8 139 yX8_tankAt, Cond.instanceMethod yX8_tankAt, Cond.selects RX8 yX8_tankAt yX8_tankAt, Cond.code yX8_tankAt cX8_tankAt 2 (some (.object "HoneyHouse$Vessel")), Cond.fieldLink RX8 17 "HoneyHouse" "tanks" "[LHoneyHouse$Vessel;", Cond.methodLink RX8 85 yX8_isIn, Cond.static yX8_isIn, Cond.code yX8_isIn cX8_isIn 3 (some .boolean), Cond.methodLink RX8 185 yX8_isMeasure, Cond.static yX8_isMeasure, Cond.code yX8_isMeasure cX8_isMeasure 1 (some .boolean), Cond.methodLink RX8 279 yX8_isPollenLow, Cond.static yX8_isPollenLow, Cond.code yX8_isPollenLow cX8_isPollenLow 1 (some .boolean), Cond.methodLink RX8 282 yX8_isPollenHigh, Cond.static yX8_isPollenHigh, Cond.code yX8_isPollenHigh cX8_isPollenHigh 1 (some .boolean), Cond.methodLink RX8 188 yX8_told]
def wsX8_measure_r2 : List Cond := [Cond.instanceMethod yX8_told, Cond.selects RX8 yX8_told yX8_told, Cond.code yX8_told cX8_told 3 (some .int), Cond.fieldLink RX8 144 "HoneyHouse$Vessel" "total" "I", Cond.fieldLink RX8 160 "HoneyHouse$Vessel" "heat" "I", Cond.constantLong RX8 288 (10), Cond.methodLink RX8 290 yX8_weighed, Cond.instanceMethod yX8_weighed, Cond.selects RX8 yX8_weighed yX8_weighed, Cond.code yX8_weighed cX8_weighed 7 (some .long), Cond.fieldLink RX8 90 "HoneyHouse" "lotCount" "I", Cond.fieldLink RX8 11 "HoneyHouse" "lots" "[LHoneyHouse$Lot;", Cond.methodLink RX8 181 yX7_gramsOf, Cond.instanceMethod yX7_gramsOf, Cond.selects RX7 yX7_gramsOf yX7_gramsOf, Cond.initialized RX7, Cond.code yX7_gramsOf cX7_gramsOf 2 (some .int), Cond.fieldLink RX7 9 "HoneyHouse$Vessel" "grams" "[I", Cond.methodLink RX8 285 yX2_perGram, Cond.instanceMethod yX2_perGram, Cond.selects RX2 yX2_perGram yX2_perGram, Cond.initialized RX2, Cond.code yX2_perGram cX2_perGram 2 (some .int), Cond.fieldLink RX2 32 "HoneyHouse$Lot" "water" "I"]
def wsX8_measure_r3 : List Cond := [Cond.fieldLink RX2 35 "HoneyHouse$Lot" "colour" "I", Cond.fieldLink RX2 9 "HoneyHouse$Lot" "low" "[I", Cond.fieldLink RX2 15 "HoneyHouse$Lot" "high" "[I", Cond.fieldLink RX2 38 "HoneyHouse$Lot" "land" "I"]
def wsX8_measure : List Cond := .code yX8_measure cX8_measure 5 (some .int) :: ((wsX8_measure_r1 ++ (wsX8_measure_r2 ++ wsX8_measure_r3)) ++ wsX80 ++ wsX70 ++ wsX20)
def wsX8_rule_r1 : List Cond := [Cond.fieldLink RX8 40 "HoneyHouse" "reader" "LHoneyHouse$RuleReader;", Cond.fieldLink RX8 68 "HoneyHouse$RuleReader" "tape" "LHoneyHouse$Tape;", Cond.fieldLink RX8 72 "HoneyHouse$Tape" "length" "I", Cond.fieldLink RX8 196 "HoneyHouse" "ruleCount" "I", Cond.fieldLink RX8 26 "HoneyHouse" "rules" "[LHoneyHouse$Rule;", Cond.classLink RX8 24 RX3, Cond.instantiable RX3 5, Cond.initialized RX3, Cond.fieldLink RX8 199 "HoneyHouse$RuleReader" "nameKey" "J", Cond.fieldLink RX8 203 "HoneyHouse$RuleReader" "from" "I", Cond.methodLink RX8 192 yX4_read, Cond.instanceMethod yX4_read, Cond.selects RX4 yX4_read yX4_read, Cond.initialized RX4, Cond.code yX4_read cX4_read 1 (some .boolean), Cond.fieldLink RX4 26 "HoneyHouse$RuleReader" "faultKind" "I", Cond.fieldLink RX4 18 "HoneyHouse$RuleReader" "faultPlace" "I", Cond.fieldLink RX4 29 "HoneyHouse$RuleReader" "codeCount" "I", Cond.fieldLink RX4 12 "HoneyHouse$RuleReader" "tape" "LHoneyHouse$Tape;", Cond.fieldLink RX4 56 "HoneyHouse$RuleReader" "value" "I", Cond.fieldLink RX4 59 "HoneyHouse$RuleReader" "from" "I", Cond.fieldLink RX4 61 "HoneyHouse$Tape" "kind" "I", Cond.methodLink RX4 32 yX6_rewind, Cond.instanceMethod yX6_rewind]
def wsX8_rule_r2 : List Cond := [Cond.selects RX6 yX6_rewind yX6_rewind, Cond.initialized RX6, Cond.code yX6_rewind cX6_rewind 1 none, Cond.fieldLink RX6 19 "HoneyHouse$Tape" "end" "I", Cond.methodLink RX6 22 yX6_advance, Cond.instanceMethod yX6_advance, Cond.selects RX6 yX6_advance yX6_advance, Cond.code yX6_advance cX6_advance 3 none, Cond.fieldLink RX6 15 "HoneyHouse$Tape" "length" "I", Cond.fieldLink RX6 32 "HoneyHouse$Tape" "start" "I", Cond.fieldLink RX6 35 "HoneyHouse$Tape" "kind" "I", Cond.methodLink RX6 25 yX6_byteAt, Cond.instanceMethod yX6_byteAt, Cond.selects RX6 yX6_byteAt yX6_byteAt, Cond.code yX6_byteAt cX6_byteAt 2 (some .int), Cond.fieldLink RX6 9 "HoneyHouse$Tape" "bytes" "[I", Cond.methodLink RX6 29 yX6_kindOf, Cond.static yX6_kindOf, Cond.code yX6_kindOf cX6_kindOf 1 (some .int), Cond.methodLink RX4 35 yX4_readName, Cond.instanceMethod yX4_readName, Cond.selects RX4 yX4_readName yX4_readName, Cond.code yX4_readName cX4_readName 1 (some .boolean), Cond.fieldLink RX4 83 "HoneyHouse$Tape" "end" "I"]
def wsX8_rule_r3 : List Cond := [Cond.fieldLink RX4 73 "HoneyHouse$Tape" "start" "I", Cond.fieldLink RX4 90 "HoneyHouse$RuleReader" "nameKey" "J", Cond.methodLink RX4 80 yX4_isKeptWord, Cond.instanceMethod yX4_isKeptWord, Cond.selects RX4 yX4_isKeptWord yX4_isKeptWord, Cond.code yX4_isKeptWord cX4_isKeptWord 1 (some .boolean), Cond.methodLink RX4 99 yX6_isWord, Cond.instanceMethod yX6_isWord, Cond.selects RX6 yX6_isWord yX6_isWord, Cond.code yX6_isWord cX6_isWord 3 (some .boolean), Cond.methodLink RX6 38 yJ0_length_8abf5, Cond.instanceMethod yJ0_length_8abf5, Cond.selects RJ0 yJ0_length_8abf5 yJ0_length_8abf5, Cond.initialized RJ0, Cond.code yJ0_length_8abf5 cJ0_length_8abf5 1 (some .int), Cond.fieldLink RJ0 9 "java/lang/String" "value" "[B", Cond.methodLink RJ0 335 yJ0_coder_7d493, Cond.instanceMethod yJ0_coder_7d493, Cond.selects RJ0 yJ0_coder_7d493 yJ0_coder_7d493, Cond.code yJ0_coder_7d493 cJ0_coder_7d493 1 (some .byte), Cond.fieldLink RJ0 38 "java/lang/String" "COMPACT_STRINGS" "Z", Cond.fieldLink RJ0 15 "java/lang/String" "coder" "B", Cond.methodLink RX6 43 yJ0_charAt_5068e, Cond.instanceMethod yJ0_charAt_5068e]
def wsX8_rule_r4 : List Cond := [Cond.selects RJ0 yJ0_charAt_5068e yJ0_charAt_5068e, Cond.code yJ0_charAt_5068e cJ0_charAt_5068e 2 (some .char), Cond.methodLink RJ0 492 yJ0_isLatin1_aae02, Cond.instanceMethod yJ0_isLatin1_aae02, Cond.selects RJ0 yJ0_isLatin1_aae02 yJ0_isLatin1_aae02, Cond.code yJ0_isLatin1_aae02 cJ0_isLatin1_aae02 1 (some .boolean), Cond.methodLink RJ0 495 yJ1_charAt_3b067, Cond.static yJ1_charAt_3b067, Cond.initialized RJ1, Cond.code yJ1_charAt_3b067 cJ1_charAt_3b067 2 (some .char), Cond.methodLink RJ1 9 yJ0_checkIndex_df160, Cond.static yJ0_checkIndex_df160, Cond.code yJ0_checkIndex_df160 cJ0_checkIndex_df160 2 none, Cond.fieldLink RJ0 1053 "jdk/internal/util/Preconditions" "SIOOBE_FORMATTER" "Ljava/util/function/BiFunction;", Cond.methodLink RJ0 1059 yJ3_checkIndex_8e157, Cond.static yJ3_checkIndex_8e157, Cond.initialized RJ3, Cond.code yJ3_checkIndex_8e157 cJ3_checkIndex_8e157 3 (some .int), Cond.methodLink RJ0 498 yJ2_charAt_3b067, Cond.static yJ2_charAt_3b067, Cond.initialized RJ2, Cond.code yJ2_charAt_3b067 cJ2_charAt_3b067 2 (some .char), Cond.methodLink RJ2 67 yJ2_checkIndex_2214a, Cond.static yJ2_checkIndex_2214a]
def wsX8_rule_r5 : List Cond := [Cond.code yJ2_checkIndex_2214a cJ2_checkIndex_2214a 2 none, Cond.methodLink RJ2 48 yJ2_length_9d52b, Cond.static yJ2_length_9d52b, Cond.code yJ2_length_9d52b cJ2_length_9d52b 1 (some .int), Cond.methodLink RJ2 414 yJ0_checkIndex_df160, Cond.methodLink RJ2 71 yJ2_getChar_3b067, Cond.static yJ2_getChar_3b067, Cond.code yJ2_getChar_3b067 cJ2_getChar_3b067 2 (some .char), Cond.fieldLink RJ2 44 "java/lang/StringUTF16" "$assertionsDisabled" "Z", Cond.fieldLink RJ2 59 "java/lang/StringUTF16" "HI_BYTE_SHIFT" "I", Cond.fieldLink RJ2 63 "java/lang/StringUTF16" "LO_BYTE_SHIFT" "I", Cond.methodLink RX4 110 yX4_measureNamed, Cond.instanceMethod yX4_measureNamed, Cond.selects RX4 yX4_measureNamed yX4_measureNamed, Cond.code yX4_measureNamed cX4_measureNamed 1 (some .int), Cond.methodLink RX4 64 yX4_failHere, Cond.instanceMethod yX4_failHere, Cond.selects RX4 yX4_failHere yX4_failHere, Cond.code yX4_failHere cX4_failHere 1 (some .boolean), Cond.methodLink RX4 76 yX4_failAt, Cond.instanceMethod yX4_failAt, Cond.selects RX4 yX4_failAt yX4_failAt, Cond.code yX4_failAt cX4_failAt 3 (some .boolean), Cond.methodLink RX4 86 yX6_wordKey]
def wsX8_rule_r6 : List Cond := [Cond.instanceMethod yX6_wordKey, Cond.selects RX6 yX6_wordKey yX6_wordKey, Cond.code yX6_wordKey cX6_wordKey 4 (some .long), Cond.constantLong RX6 47 (97), Cond.methodLink RX4 94 yX6_advance, Cond.methodLink RX4 39 yX4_readByte, Cond.instanceMethod yX4_readByte, Cond.selects RX4 yX4_readByte yX4_readByte, Cond.code yX4_readByte cX4_readByte 2 (some .boolean), Cond.methodLink RX4 114 yX6_isByte, Cond.instanceMethod yX6_isByte, Cond.selects RX6 yX6_isByte yX6_isByte, Cond.code yX6_isByte cX6_isByte 2 (some .boolean), Cond.methodLink RX4 43 yX4_readEither, Cond.instanceMethod yX4_readEither, Cond.selects RX4 yX4_readEither yX4_readEither, Cond.code yX4_readEither cX4_readEither 6 (some .boolean), Cond.methodLink RX4 120 yX4_readOne, Cond.instanceMethod yX4_readOne, Cond.selects RX4 yX4_readOne yX4_readOne, Cond.methodLink RX4 123 yX4_isAndOr, Cond.instanceMethod yX4_isAndOr, Cond.selects RX4 yX4_isAndOr yX4_isAndOr, Cond.code yX4_isAndOr cX4_isAndOr 1 (some .boolean)]
def wsX8_rule_r7 : List Cond := [Cond.methodLink RX4 126 yX4_addCode, Cond.instanceMethod yX4_addCode, Cond.selects RX4 yX4_addCode yX4_addCode, Cond.code yX4_addCode cX4_addCode 2 none, Cond.fieldLink RX4 22 "HoneyHouse$RuleReader" "codes" "[I", Cond.code yX4_readOne cX4_readOne 4 (some .boolean), Cond.methodLink RX4 130 yX4_readTest, Cond.instanceMethod yX4_readTest, Cond.selects RX4 yX4_readTest yX4_readTest, Cond.code yX4_readTest cX4_readTest 3 (some .boolean), Cond.methodLink RX4 53 yX4_readNumber, Cond.instanceMethod yX4_readNumber, Cond.selects RX4 yX4_readNumber yX4_readNumber, Cond.code yX4_readNumber cX4_readNumber 2 (some .boolean), Cond.methodLink RX4 117 yX6_numberValue, Cond.instanceMethod yX6_numberValue, Cond.selects RX6 yX6_numberValue yX6_numberValue, Cond.code yX6_numberValue cX6_numberValue 3 (some .int), Cond.methodLink RX4 133 yX4_testCode, Cond.static yX4_testCode, Cond.code yX4_testCode cX4_testCode 3 (some .int), Cond.methodLink RX4 49 yX4_readWord, Cond.instanceMethod yX4_readWord, Cond.selects RX4 yX4_readWord yX4_readWord]
def wsX8_rule_r8 : List Cond := [Cond.code yX4_readWord cX4_readWord 2 (some .boolean), Cond.methodLink RX8 206 yX4_codeRead, Cond.instanceMethod yX4_codeRead, Cond.selects RX4 yX4_codeRead yX4_codeRead, Cond.code yX4_codeRead cX4_codeRead 1 (some (.array .int)), Cond.methodLink RX4 67 yJ7_copyOf_59c91, Cond.static yJ7_copyOf_59c91, Cond.initialized RJ7, Cond.code yJ7_copyOf_59c91 cJ7_copyOf_59c91 3 (some (.array .int)), Cond.methodLink RJ7 316 ⟨"[I", "clone", "()Ljava/lang/Object;"⟩, Cond.sameMethod "[I" "java/lang/Object" "clone" "()Ljava/lang/Object;", Cond.native ⟨"java/lang/Object", "clone", "()Ljava/lang/Object;"⟩, Cond.instanceMethod ⟨"java/lang/Object", "clone", "()Ljava/lang/Object;"⟩, Cond.selects "[I" ⟨"[I", "clone", "()Ljava/lang/Object;"⟩ ⟨"java/lang/Object", "clone", "()Ljava/lang/Object;"⟩, Cond.classLink RJ7 317 "[I", Cond.arrayClass .int, Cond.methodLink RJ7 304 Lib.Math.min.name, Cond.static Lib.Math.min.name, Cond.initialized "java/lang/Math", Cond.code Lib.Math.min.name Lib.Math.min.code 2 (some .int), Cond.methodLink RJ7 150 arraycopyName, Cond.native arraycopyName, Cond.static arraycopyName, Cond.initialized "java/lang/System"]
def wsX8_rule_r9 : List Cond := [Cond.methodLink RX8 210 yX3_init, Cond.instanceMethod yX3_init, Cond.code yX3_init cX3_init 5 none, Cond.methodLink RX3 1 objectInit, Cond.instanceMethod objectInit, Cond.code objectInit ⟨#[0xb1]⟩ 1 none, Cond.fieldLink RX3 7 "HoneyHouse$Rule" "nameKey" "J", Cond.fieldLink RX3 13 "HoneyHouse$Rule" "from" "I", Cond.fieldLink RX3 17 "HoneyHouse$Rule" "code" "[I"]
def wsX8_rule : List Cond := .code yX8_rule cX8_rule 2 (some .int) :: ((wsX8_rule_r1 ++ (wsX8_rule_r2 ++ (wsX8_rule_r3 ++ (wsX8_rule_r4 ++ (wsX8_rule_r5 ++ (wsX8_rule_r6 ++ (wsX8_rule_r7 ++ (wsX8_rule_r8 ++ wsX8_rule_r9)))))))) ++ wsX80 ++ wsX40 ++ wsX60 ++ wsX30)
def wsX8_fault : List Cond := .code yX8_fault cX8_fault 2 (some .int) :: ([.fieldLink RX8 40 "HoneyHouse" "reader" "LHoneyHouse$RuleReader;", .fieldLink RX8 213 "HoneyHouse$RuleReader" "faultKind" "I", .fieldLink RX8 216 "HoneyHouse$RuleReader" "faultPlace" "I"] ++ wsX80 ++ wsX40)
def wsX8_ruleAt : List Cond := .code yX8_ruleAt cX8_ruleAt 2 (some (.object "HoneyHouse$Rule")) :: ([.fieldLink RX8 26 "HoneyHouse" "rules" "[LHoneyHouse$Rule;", .methodLink RX8 85 yX8_isIn, .static yX8_isIn, .initialized RX8, .code yX8_isIn cX8_isIn 3 (some .boolean)] ++ wsX80)
def wsX8_shut : List Cond := .code yX8_shut cX8_shut 4 (some .boolean) :: ([.fieldLink RX8 223 "HoneyHouse$Rule" "isShut" "Z", .fieldLink RX8 227 "HoneyHouse$Rule" "from" "I", .fieldLink RX8 228 "HoneyHouse$Rule" "shutDay" "I", .methodLink RX8 219 yX8_ruleAt, .instanceMethod yX8_ruleAt, .selects RX8 yX8_ruleAt yX8_ruleAt, .initialized RX8, .code yX8_ruleAt cX8_ruleAt 2 (some (.object "HoneyHouse$Rule")), .fieldLink RX8 26 "HoneyHouse" "rules" "[LHoneyHouse$Rule;", .methodLink RX8 85 yX8_isIn, .static yX8_isIn, .code yX8_isIn cX8_isIn 3 (some .boolean)] ++ wsX30 ++ wsX80)
def wsX8_verdictOfTest_r1 : List Cond := [Cond.fieldLink RX8 144 "HoneyHouse$Vessel" "total" "I", Cond.methodLink RX8 290 yX8_weighed, Cond.instanceMethod yX8_weighed, Cond.selects RX8 yX8_weighed yX8_weighed, Cond.initialized RX8, Cond.code yX8_weighed cX8_weighed 7 (some .long), Cond.fieldLink RX8 160 "HoneyHouse$Vessel" "heat" "I", Cond.fieldLink RX8 90 "HoneyHouse" "lotCount" "I", Cond.fieldLink RX8 11 "HoneyHouse" "lots" "[LHoneyHouse$Lot;", Cond.methodLink RX8 181 yX7_gramsOf, Cond.instanceMethod yX7_gramsOf, Cond.selects RX7 yX7_gramsOf yX7_gramsOf, Cond.initialized RX7, Cond.code yX7_gramsOf cX7_gramsOf 2 (some .int), Cond.fieldLink RX7 9 "HoneyHouse$Vessel" "grams" "[I", Cond.methodLink RX8 285 yX2_perGram, Cond.instanceMethod yX2_perGram, Cond.selects RX2 yX2_perGram yX2_perGram, Cond.initialized RX2, Cond.code yX2_perGram cX2_perGram 2 (some .int), Cond.fieldLink RX2 32 "HoneyHouse$Lot" "water" "I", Cond.fieldLink RX2 35 "HoneyHouse$Lot" "colour" "I", Cond.fieldLink RX2 9 "HoneyHouse$Lot" "low" "[I", Cond.fieldLink RX2 15 "HoneyHouse$Lot" "high" "[I"]
def wsX8_verdictOfTest_r2 : List Cond := [Cond.fieldLink RX2 38 "HoneyHouse$Lot" "land" "I", Cond.static yX8_isPollenLow, Cond.code yX8_isPollenLow cX8_isPollenLow 1 (some .boolean), Cond.methodLink RX8 85 yX8_isIn, Cond.static yX8_isIn, Cond.code yX8_isIn cX8_isIn 3 (some .boolean), Cond.static yX8_isPollenHigh, Cond.code yX8_isPollenHigh cX8_isPollenHigh 1 (some .boolean), Cond.methodLink RX8 279 yX8_isPollenLow]
def wsX8_verdictOfTest : List Cond := .code yX8_verdictOfTest cX8_verdictOfTest 11 (some .int) :: ((wsX8_verdictOfTest_r1 ++ wsX8_verdictOfTest_r2) ++ wsX70 ++ wsX80 ++ wsX20)
def wsX8_verdict_r1 : List Cond := [Cond.fieldLink RX8 294 "HoneyHouse$Rule" "code" "[I", Cond.fieldLink RX8 58 "HoneyHouse" "verdicts" "[I", Cond.methodLink RX8 301 Lib.Math.min.name, Cond.static Lib.Math.min.name, Cond.initialized "java/lang/Math", Cond.code Lib.Math.min.name Lib.Math.min.code 2 (some .int), Cond.methodLink RX8 306 Lib.Math.max.name, Cond.static Lib.Math.max.name, Cond.code Lib.Math.max.name Lib.Math.max.code 2 (some .int), Cond.methodLink RX8 297 yX8_verdictOfTest, Cond.instanceMethod yX8_verdictOfTest, Cond.selects RX8 yX8_verdictOfTest yX8_verdictOfTest, Cond.initialized RX8, Cond.code yX8_verdictOfTest cX8_verdictOfTest 11 (some .int), Cond.fieldLink RX8 144 "HoneyHouse$Vessel" "total" "I", Cond.methodLink RX8 290 yX8_weighed, Cond.instanceMethod yX8_weighed, Cond.selects RX8 yX8_weighed yX8_weighed, Cond.code yX8_weighed cX8_weighed 7 (some .long), Cond.fieldLink RX8 160 "HoneyHouse$Vessel" "heat" "I", Cond.fieldLink RX8 90 "HoneyHouse" "lotCount" "I", Cond.fieldLink RX8 11 "HoneyHouse" "lots" "[LHoneyHouse$Lot;", Cond.methodLink RX8 181 yX7_gramsOf, Cond.instanceMethod yX7_gramsOf]
def wsX8_verdict_r2 : List Cond := [Cond.selects RX7 yX7_gramsOf yX7_gramsOf, Cond.initialized RX7, Cond.code yX7_gramsOf cX7_gramsOf 2 (some .int), Cond.fieldLink RX7 9 "HoneyHouse$Vessel" "grams" "[I", Cond.methodLink RX8 285 yX2_perGram, Cond.instanceMethod yX2_perGram, Cond.selects RX2 yX2_perGram yX2_perGram, Cond.initialized RX2, Cond.code yX2_perGram cX2_perGram 2 (some .int), Cond.fieldLink RX2 32 "HoneyHouse$Lot" "water" "I", Cond.fieldLink RX2 35 "HoneyHouse$Lot" "colour" "I", Cond.fieldLink RX2 9 "HoneyHouse$Lot" "low" "[I", Cond.fieldLink RX2 15 "HoneyHouse$Lot" "high" "[I", Cond.fieldLink RX2 38 "HoneyHouse$Lot" "land" "I", Cond.static yX8_isPollenLow, Cond.code yX8_isPollenLow cX8_isPollenLow 1 (some .boolean), Cond.methodLink RX8 85 yX8_isIn, Cond.static yX8_isIn, Cond.code yX8_isIn cX8_isIn 3 (some .boolean), Cond.static yX8_isPollenHigh, Cond.code yX8_isPollenHigh cX8_isPollenHigh 1 (some .boolean), Cond.methodLink RX8 279 yX8_isPollenLow]
def wsX8_verdict : List Cond := .code yX8_verdict cX8_verdict 8 (some .int) :: ((wsX8_verdict_r1 ++ wsX8_verdict_r2) ++ wsX30 ++ wsX80 ++ wsX70 ++ wsX20)
def wsX8_says_r1 : List Cond := [Cond.fieldLink RX8 144 "HoneyHouse$Vessel" "total" "I", Cond.methodLink RX8 219 yX8_ruleAt, Cond.instanceMethod yX8_ruleAt, Cond.selects RX8 yX8_ruleAt yX8_ruleAt, Cond.initialized RX8, Cond.code yX8_ruleAt cX8_ruleAt 2 (some (.object "HoneyHouse$Rule")), Cond.fieldLink RX8 26 "HoneyHouse" "rules" "[LHoneyHouse$Rule;", Cond.methodLink RX8 85 yX8_isIn, Cond.static yX8_isIn, Cond.code yX8_isIn cX8_isIn 3 (some .boolean), Cond.methodLink RX8 173 yX8_vesselAt, Cond.instanceMethod yX8_vesselAt, Cond.selects RX8 yX8_vesselAt yX8_vesselAt, Cond.code yX8_vesselAt cX8_vesselAt 3 (some (.object "HoneyHouse$Vessel")), Cond.fieldLink RX8 21 "HoneyHouse" "batches" "[LHoneyHouse$Vessel;", Cond.methodLink RX8 139 yX8_tankAt, Cond.instanceMethod yX8_tankAt, Cond.selects RX8 yX8_tankAt yX8_tankAt, Cond.code yX8_tankAt cX8_tankAt 2 (some (.object "HoneyHouse$Vessel")), Cond.fieldLink RX8 17 "HoneyHouse" "tanks" "[LHoneyHouse$Vessel;", Cond.methodLink RX8 231 yX8_verdict, Cond.instanceMethod yX8_verdict, Cond.selects RX8 yX8_verdict yX8_verdict, Cond.code yX8_verdict cX8_verdict 8 (some .int)]
def wsX8_says_r2 : List Cond := [Cond.fieldLink RX8 294 "HoneyHouse$Rule" "code" "[I", Cond.fieldLink RX8 58 "HoneyHouse" "verdicts" "[I", Cond.methodLink RX8 301 Lib.Math.min.name, Cond.static Lib.Math.min.name, Cond.initialized "java/lang/Math", Cond.code Lib.Math.min.name Lib.Math.min.code 2 (some .int), Cond.methodLink RX8 306 Lib.Math.max.name, Cond.static Lib.Math.max.name, Cond.code Lib.Math.max.name Lib.Math.max.code 2 (some .int), Cond.methodLink RX8 297 yX8_verdictOfTest, Cond.instanceMethod yX8_verdictOfTest, Cond.selects RX8 yX8_verdictOfTest yX8_verdictOfTest, Cond.code yX8_verdictOfTest cX8_verdictOfTest 11 (some .int), Cond.methodLink RX8 290 yX8_weighed, Cond.instanceMethod yX8_weighed, Cond.selects RX8 yX8_weighed yX8_weighed, Cond.code yX8_weighed cX8_weighed 7 (some .long), Cond.fieldLink RX8 160 "HoneyHouse$Vessel" "heat" "I", Cond.fieldLink RX8 90 "HoneyHouse" "lotCount" "I", Cond.fieldLink RX8 11 "HoneyHouse" "lots" "[LHoneyHouse$Lot;", Cond.methodLink RX8 181 yX7_gramsOf, Cond.instanceMethod yX7_gramsOf, Cond.selects RX7 yX7_gramsOf yX7_gramsOf, Cond.initialized RX7]
def wsX8_says_r3 : List Cond := [Cond.code yX7_gramsOf cX7_gramsOf 2 (some .int), Cond.fieldLink RX7 9 "HoneyHouse$Vessel" "grams" "[I", Cond.methodLink RX8 285 yX2_perGram, Cond.instanceMethod yX2_perGram, Cond.selects RX2 yX2_perGram yX2_perGram, Cond.initialized RX2, Cond.code yX2_perGram cX2_perGram 2 (some .int), Cond.fieldLink RX2 32 "HoneyHouse$Lot" "water" "I", Cond.fieldLink RX2 35 "HoneyHouse$Lot" "colour" "I", Cond.fieldLink RX2 9 "HoneyHouse$Lot" "low" "[I", Cond.fieldLink RX2 15 "HoneyHouse$Lot" "high" "[I", Cond.fieldLink RX2 38 "HoneyHouse$Lot" "land" "I", Cond.static yX8_isPollenLow, Cond.code yX8_isPollenLow cX8_isPollenLow 1 (some .boolean), Cond.static yX8_isPollenHigh, Cond.code yX8_isPollenHigh cX8_isPollenHigh 1 (some .boolean), Cond.methodLink RX8 279 yX8_isPollenLow]
def wsX8_says : List Cond := .code yX8_says cX8_says 6 (some .int) :: ((wsX8_says_r1 ++ (wsX8_says_r2 ++ wsX8_says_r3)) ++ wsX70 ++ wsX80 ++ wsX30 ++ wsX20)
def wsX8_isInForce : List Cond := .code yX8_isInForce cX8_isInForce 6 (some .boolean) :: ([.fieldLink RX8 227 "HoneyHouse$Rule" "from" "I", .fieldLink RX8 223 "HoneyHouse$Rule" "isShut" "Z", .fieldLink RX8 228 "HoneyHouse$Rule" "shutDay" "I", .fieldLink RX8 26 "HoneyHouse" "rules" "[LHoneyHouse$Rule;", .fieldLink RX8 309 "HoneyHouse$Rule" "nameKey" "J"] ++ wsX30 ++ wsX80)
def wsX8_name_r1 : List Cond := [Cond.fieldLink RX8 144 "HoneyHouse$Vessel" "total" "I", Cond.fieldLink RX8 26 "HoneyHouse" "rules" "[LHoneyHouse$Rule;", Cond.methodLink RX8 173 yX8_vesselAt, Cond.instanceMethod yX8_vesselAt, Cond.selects RX8 yX8_vesselAt yX8_vesselAt, Cond.initialized RX8, Cond.code yX8_vesselAt cX8_vesselAt 3 (some (.object "HoneyHouse$Vessel")), Cond.fieldLink RX8 21 "HoneyHouse" "batches" "[LHoneyHouse$Vessel;", Cond.methodLink RX8 139 yX8_tankAt, Cond.instanceMethod yX8_tankAt, Cond.selects RX8 yX8_tankAt yX8_tankAt, Cond.code yX8_tankAt cX8_tankAt 2 (some (.object "HoneyHouse$Vessel")), Cond.fieldLink RX8 17 "HoneyHouse" "tanks" "[LHoneyHouse$Vessel;", Cond.methodLink RX8 85 yX8_isIn, Cond.static yX8_isIn, Cond.code yX8_isIn cX8_isIn 3 (some .boolean), Cond.methodLink RX8 235 yX8_isInForce, Cond.instanceMethod yX8_isInForce, Cond.selects RX8 yX8_isInForce yX8_isInForce, Cond.code yX8_isInForce cX8_isInForce 6 (some .boolean), Cond.fieldLink RX8 227 "HoneyHouse$Rule" "from" "I", Cond.fieldLink RX8 223 "HoneyHouse$Rule" "isShut" "Z", Cond.fieldLink RX8 228 "HoneyHouse$Rule" "shutDay" "I", Cond.fieldLink RX8 309 "HoneyHouse$Rule" "nameKey" "J"]
def wsX8_name_r2 : List Cond := [Cond.methodLink RX8 231 yX8_verdict, Cond.instanceMethod yX8_verdict, Cond.selects RX8 yX8_verdict yX8_verdict, Cond.code yX8_verdict cX8_verdict 8 (some .int), Cond.fieldLink RX8 294 "HoneyHouse$Rule" "code" "[I", Cond.fieldLink RX8 58 "HoneyHouse" "verdicts" "[I", Cond.methodLink RX8 301 Lib.Math.min.name, Cond.static Lib.Math.min.name, Cond.initialized "java/lang/Math", Cond.code Lib.Math.min.name Lib.Math.min.code 2 (some .int), Cond.methodLink RX8 306 Lib.Math.max.name, Cond.static Lib.Math.max.name, Cond.code Lib.Math.max.name Lib.Math.max.code 2 (some .int), Cond.methodLink RX8 297 yX8_verdictOfTest, Cond.instanceMethod yX8_verdictOfTest, Cond.selects RX8 yX8_verdictOfTest yX8_verdictOfTest, Cond.code yX8_verdictOfTest cX8_verdictOfTest 11 (some .int), Cond.methodLink RX8 290 yX8_weighed, Cond.instanceMethod yX8_weighed, Cond.selects RX8 yX8_weighed yX8_weighed, Cond.code yX8_weighed cX8_weighed 7 (some .long), Cond.fieldLink RX8 160 "HoneyHouse$Vessel" "heat" "I", Cond.fieldLink RX8 90 "HoneyHouse" "lotCount" "I", Cond.fieldLink RX8 11 "HoneyHouse" "lots" "[LHoneyHouse$Lot;"]
def wsX8_name_r3 : List Cond := [Cond.methodLink RX8 181 yX7_gramsOf, Cond.instanceMethod yX7_gramsOf, Cond.selects RX7 yX7_gramsOf yX7_gramsOf, Cond.initialized RX7, Cond.code yX7_gramsOf cX7_gramsOf 2 (some .int), Cond.fieldLink RX7 9 "HoneyHouse$Vessel" "grams" "[I", Cond.methodLink RX8 285 yX2_perGram, Cond.instanceMethod yX2_perGram, Cond.selects RX2 yX2_perGram yX2_perGram, Cond.initialized RX2, Cond.code yX2_perGram cX2_perGram 2 (some .int), Cond.fieldLink RX2 32 "HoneyHouse$Lot" "water" "I", Cond.fieldLink RX2 35 "HoneyHouse$Lot" "colour" "I", Cond.fieldLink RX2 9 "HoneyHouse$Lot" "low" "[I", Cond.fieldLink RX2 15 "HoneyHouse$Lot" "high" "[I", Cond.fieldLink RX2 38 "HoneyHouse$Lot" "land" "I", Cond.static yX8_isPollenLow, Cond.code yX8_isPollenLow cX8_isPollenLow 1 (some .boolean), Cond.static yX8_isPollenHigh, Cond.code yX8_isPollenHigh cX8_isPollenHigh 1 (some .boolean), Cond.methodLink RX8 279 yX8_isPollenLow]
def wsX8_name : List Cond := .code yX8_name cX8_name 7 (some .int) :: ((wsX8_name_r1 ++ (wsX8_name_r2 ++ wsX8_name_r3)) ++ wsX70 ++ wsX80 ++ wsX30 ++ wsX20)
def wsX8_step : List Cond := .code yX8_step cX8_step 4 (some .boolean) :: ([.constant RX8 239 (100000), .fieldLink RX8 33 "HoneyHouse" "stepsNow" "LHoneyHouse$Steps;", .fieldLink RX8 240 "HoneyHouse$Steps" "waters" "[I", .fieldLink RX8 243 "HoneyHouse$Steps" "prices" "[I", .methodLink RX8 85 yX8_isIn, .static yX8_isIn, .initialized RX8, .code yX8_isIn cX8_isIn 3 (some .boolean)] ++ wsX80 ++ wsX50)
def wsX8_paid : List Cond := .code yX8_paid cX8_paid 6 (some .long) :: ([.constantLong RX8 246 (-1), .fieldLink RX8 11 "HoneyHouse" "lots" "[LHoneyHouse$Lot;", .fieldLink RX8 127 "HoneyHouse$Lot" "keeper" "I", .fieldLink RX8 111 "HoneyHouse$Lot" "pay" "I", .methodLink RX8 85 yX8_isIn, .static yX8_isIn, .initialized RX8, .code yX8_isIn cX8_isIn 3 (some .boolean)] ++ wsX80 ++ wsX20)
def wsJ6_bitCount_0f7a4 : List Cond := .code yJ6_bitCount_0f7a4 cJ6_bitCount_0f7a4 1 (some .int) :: ([.constant RJ6 265 (1431655765), .constant RJ6 266 (858993459), .constant RJ6 267 (252645135)])
def wsX8_hasBit : List Cond := .code yX8_hasBit cX8_hasBit 2 (some .boolean) :: ([])
def wsX8_areTanksToBlend : List Cond := .code yX8_areTanksToBlend cX8_areTanksToBlend 3 (some .boolean) :: ([.fieldLink RX8 17 "HoneyHouse" "tanks" "[LHoneyHouse$Vessel;", .fieldLink RX8 144 "HoneyHouse$Vessel" "total" "I", .methodLink RX8 310 yJ6_bitCount_0f7a4, .static yJ6_bitCount_0f7a4, .initialized RJ6, .code yJ6_bitCount_0f7a4 cJ6_bitCount_0f7a4 1 (some .int), .constant RJ6 265 (1431655765), .constant RJ6 266 (858993459), .constant RJ6 267 (252645135), .methodLink RX8 85 yX8_isIn, .static yX8_isIn, .initialized RX8, .code yX8_isIn cX8_isIn 3 (some .boolean), .methodLink RX8 255 yX8_hasBit, .static yX8_hasBit, .code yX8_hasBit cX8_hasBit 2 (some .boolean)] ++ wsX80 ++ wsX70)
def wsX8_blend_r1 : List Cond := [Cond.fieldLink RX8 54 "HoneyHouse" "blender" "LHoneyHouse$Blender;", Cond.fieldLink RX8 17 "HoneyHouse" "tanks" "[LHoneyHouse$Vessel;", Cond.fieldLink RX8 144 "HoneyHouse$Vessel" "total" "I", Cond.fieldLink RX8 150 "HoneyHouse$Vessel" "priceOrDay" "I", Cond.methodLink RX8 85 yX8_isIn, Cond.static yX8_isIn, Cond.initialized RX8, Cond.code yX8_isIn cX8_isIn 3 (some .boolean), Cond.methodLink RX8 248 yX8_areTanksToBlend, Cond.instanceMethod yX8_areTanksToBlend, Cond.selects RX8 yX8_areTanksToBlend yX8_areTanksToBlend, Cond.code yX8_areTanksToBlend cX8_areTanksToBlend 3 (some .boolean), Cond.methodLink RX8 310 yJ6_bitCount_0f7a4, Cond.static yJ6_bitCount_0f7a4, Cond.initialized RJ6, Cond.code yJ6_bitCount_0f7a4 cJ6_bitCount_0f7a4 1 (some .int), Cond.constant RJ6 265 (1431655765), Cond.constant RJ6 266 (858993459), Cond.constant RJ6 267 (252645135), Cond.methodLink RX8 255 yX8_hasBit, Cond.static yX8_hasBit, Cond.code yX8_hasBit cX8_hasBit 2 (some .boolean), Cond.methodLink RX8 251 yX0_begin, Cond.instanceMethod yX0_begin]
def wsX8_blend_r2 : List Cond := [Cond.selects RX0 yX0_begin yX0_begin, Cond.initialized RX0, Cond.code yX0_begin cX0_begin 5 none, Cond.fieldLink RX0 33 "HoneyHouse$Blender" "tankCount" "I", Cond.fieldLink RX0 18 "HoneyHouse$Blender" "mostParts" "[I", Cond.fieldLink RX0 43 "HoneyHouse$Blender" "partsInAll" "I", Cond.fieldLink RX0 46 "HoneyHouse$Blender" "mostWater" "I", Cond.fieldLink RX0 49 "HoneyHouse$Blender" "leastColour" "I", Cond.fieldLink RX0 52 "HoneyHouse$Blender" "mostColour" "I", Cond.methodLink RX0 37 yJ7_fill_53178, Cond.static yJ7_fill_53178, Cond.initialized RJ7, Cond.code yJ7_fill_53178 cJ7_fill_53178 4 none, Cond.methodLink RX8 188 yX8_told, Cond.instanceMethod yX8_told, Cond.selects RX8 yX8_told yX8_told, Cond.code yX8_told cX8_told 3 (some .int), Cond.fieldLink RX8 160 "HoneyHouse$Vessel" "heat" "I", Cond.constantLong RX8 288 (10), Cond.methodLink RX8 290 yX8_weighed, Cond.instanceMethod yX8_weighed, Cond.selects RX8 yX8_weighed yX8_weighed, Cond.code yX8_weighed cX8_weighed 7 (some .long), Cond.fieldLink RX8 90 "HoneyHouse" "lotCount" "I"]
def wsX8_blend_r3 : List Cond := [Cond.fieldLink RX8 11 "HoneyHouse" "lots" "[LHoneyHouse$Lot;", Cond.methodLink RX8 181 yX7_gramsOf, Cond.instanceMethod yX7_gramsOf, Cond.selects RX7 yX7_gramsOf yX7_gramsOf, Cond.initialized RX7, Cond.code yX7_gramsOf cX7_gramsOf 2 (some .int), Cond.fieldLink RX7 9 "HoneyHouse$Vessel" "grams" "[I", Cond.methodLink RX8 285 yX2_perGram, Cond.instanceMethod yX2_perGram, Cond.selects RX2 yX2_perGram yX2_perGram, Cond.initialized RX2, Cond.code yX2_perGram cX2_perGram 2 (some .int), Cond.fieldLink RX2 32 "HoneyHouse$Lot" "water" "I", Cond.fieldLink RX2 35 "HoneyHouse$Lot" "colour" "I", Cond.fieldLink RX2 9 "HoneyHouse$Lot" "low" "[I", Cond.fieldLink RX2 15 "HoneyHouse$Lot" "high" "[I", Cond.fieldLink RX2 38 "HoneyHouse$Lot" "land" "I", Cond.static yX8_isPollenLow, Cond.code yX8_isPollenLow cX8_isPollenLow 1 (some .boolean), Cond.static yX8_isPollenHigh, Cond.code yX8_isPollenHigh cX8_isPollenHigh 1 (some .boolean), Cond.methodLink RX8 259 yX0_addTank, Cond.instanceMethod yX0_addTank, Cond.selects RX0 yX0_addTank yX0_addTank]
def wsX8_blend_r4 : List Cond := [Cond.code yX0_addTank cX0_addTank 6 none, Cond.fieldLink RX0 15 "HoneyHouse$Blender" "tankNumbers" "[I", Cond.fieldLink RX0 21 "HoneyHouse$Blender" "waters" "[I", Cond.fieldLink RX0 24 "HoneyHouse$Blender" "colours" "[I", Cond.fieldLink RX0 27 "HoneyHouse$Blender" "prices" "[I", Cond.methodLink RX8 263 yX0_leastPrice, Cond.instanceMethod yX0_leastPrice, Cond.selects RX0 yX0_leastPrice yX0_leastPrice, Cond.code yX0_leastPrice cX0_leastPrice 3 (some .int), Cond.fieldLink RX0 55 "HoneyHouse$Blender" "bestPrice" "I", Cond.methodLink RX0 58 Lib.Math.min.name, Cond.static Lib.Math.min.name, Cond.initialized "java/lang/Math", Cond.code Lib.Math.min.name Lib.Math.min.code 2 (some .int), Cond.methodLink RX0 64 yX0_tryWith, Cond.instanceMethod yX0_tryWith, Cond.selects RX0 yX0_tryWith yX0_tryWith, Cond.code yX0_tryWith cX0_tryWith 10 none, Cond.methodLink RX0 71 Lib.Math.max.name, Cond.static Lib.Math.max.name, Cond.code Lib.Math.max.name Lib.Math.max.code 2 (some .int), Cond.fieldLink RX0 30 "HoneyHouse$Blender" "best" "[I", Cond.methodLink RX0 74 yX0_isWithin, Cond.instanceMethod yX0_isWithin]
def wsX8_blend_r5 : List Cond := [Cond.selects RX0 yX0_isWithin yX0_isWithin, Cond.code yX0_isWithin cX0_isWithin 3 (some .boolean), Cond.methodLink RX0 68 yX0_keepBest, Cond.instanceMethod yX0_keepBest, Cond.selects RX0 yX0_keepBest yX0_keepBest, Cond.code yX0_keepBest cX0_keepBest 3 none, Cond.fieldLink RX0 9 "HoneyHouse$Blender" "toldParts" "[I", Cond.fieldLink RX0 78 "HoneyHouse$Blender" "hasTold" "Z"]
def wsX8_blend : List Cond := .code yX8_blend cX8_blend 9 (some .int) :: ((wsX8_blend_r1 ++ (wsX8_blend_r2 ++ (wsX8_blend_r3 ++ (wsX8_blend_r4 ++ wsX8_blend_r5)))) ++ wsX80 ++ wsX70 ++ wsX00 ++ wsX20)
def wsX8_parts : List Cond := .code yX8_parts cX8_parts 2 (some .int) :: ([.fieldLink RX8 54 "HoneyHouse" "blender" "LHoneyHouse$Blender;", .fieldLink RX8 266 "HoneyHouse$Blender" "hasTold" "Z", .fieldLink RX8 269 "HoneyHouse$Blender" "toldParts" "[I", .methodLink RX8 139 yX8_tankAt, .instanceMethod yX8_tankAt, .selects RX8 yX8_tankAt yX8_tankAt, .initialized RX8, .code yX8_tankAt cX8_tankAt 2 (some (.object "HoneyHouse$Vessel")), .fieldLink RX8 17 "HoneyHouse" "tanks" "[LHoneyHouse$Vessel;", .methodLink RX8 85 yX8_isIn, .static yX8_isIn, .code yX8_isIn cX8_isIn 3 (some .boolean)] ++ wsX80 ++ wsX00)
def wsX8_trace : List Cond := .code yX8_trace cX8_trace 4 (some .int) :: ([.fieldLink RX8 272 "HoneyHouse" "foundCount" "I", .fieldLink RX8 21 "HoneyHouse" "batches" "[LHoneyHouse$Vessel;", .fieldLink RX8 62 "HoneyHouse" "foundBatches" "[I", .methodLink RX8 96 yX8_lotAt, .instanceMethod yX8_lotAt, .selects RX8 yX8_lotAt yX8_lotAt, .initialized RX8, .code yX8_lotAt cX8_lotAt 2 (some (.object "HoneyHouse$Lot")), .fieldLink RX8 11 "HoneyHouse" "lots" "[LHoneyHouse$Lot;", .methodLink RX8 85 yX8_isIn, .static yX8_isIn, .code yX8_isIn cX8_isIn 3 (some .boolean), .methodLink RX8 181 yX7_gramsOf, .instanceMethod yX7_gramsOf, .selects RX7 yX7_gramsOf yX7_gramsOf, .initialized RX7, .code yX7_gramsOf cX7_gramsOf 2 (some .int), .fieldLink RX7 9 "HoneyHouse$Vessel" "grams" "[I"] ++ wsX80 ++ wsX70)
def wsX8_found : List Cond := .code yX8_found cX8_found 2 (some .int) :: ([.fieldLink RX8 272 "HoneyHouse" "foundCount" "I", .fieldLink RX8 62 "HoneyHouse" "foundBatches" "[I", .methodLink RX8 85 yX8_isIn, .static yX8_isIn, .initialized RX8, .code yX8_isIn cX8_isIn 3 (some .boolean)] ++ wsX80)
def wsX8_gramsIn : List Cond := .code yX8_gramsIn cX8_gramsIn 5 (some .int) :: ([.methodLink RX8 181 yX7_gramsOf, .instanceMethod yX7_gramsOf, .selects RX7 yX7_gramsOf yX7_gramsOf, .initialized RX7, .code yX7_gramsOf cX7_gramsOf 2 (some .int), .fieldLink RX7 9 "HoneyHouse$Vessel" "grams" "[I"] ++ wsX70)
def wsX8_whereabouts : List Cond := .code yX8_whereabouts cX8_whereabouts 6 (some .int) :: ([.fieldLink RX8 136 "HoneyHouse$Lot" "left" "I", .fieldLink RX8 17 "HoneyHouse" "tanks" "[LHoneyHouse$Vessel;", .fieldLink RX8 21 "HoneyHouse" "batches" "[LHoneyHouse$Vessel;", .fieldLink RX8 120 "HoneyHouse$Lot" "grams" "I", .methodLink RX8 315 yX8_gramsIn, .static yX8_gramsIn, .initialized RX8, .code yX8_gramsIn cX8_gramsIn 5 (some .int), .methodLink RX8 181 yX7_gramsOf, .instanceMethod yX7_gramsOf, .selects RX7 yX7_gramsOf yX7_gramsOf, .initialized RX7, .code yX7_gramsOf cX7_gramsOf 2 (some .int), .fieldLink RX7 9 "HoneyHouse$Vessel" "grams" "[I"] ++ wsX20 ++ wsX80 ++ wsX70)
def wsX8_whose : List Cond := .code yX8_whose cX8_whose 7 (some .long) :: ([.constantLong RX8 246 (-1), .fieldLink RX8 11 "HoneyHouse" "lots" "[LHoneyHouse$Lot;", .fieldLink RX8 127 "HoneyHouse$Lot" "keeper" "I", .methodLink RX8 85 yX8_isIn, .static yX8_isIn, .initialized RX8, .code yX8_isIn cX8_isIn 3 (some .boolean), .methodLink RX8 275 yX8_whereabouts, .instanceMethod yX8_whereabouts, .selects RX8 yX8_whereabouts yX8_whereabouts, .code yX8_whereabouts cX8_whereabouts 6 (some .int), .fieldLink RX8 136 "HoneyHouse$Lot" "left" "I", .fieldLink RX8 17 "HoneyHouse" "tanks" "[LHoneyHouse$Vessel;", .fieldLink RX8 21 "HoneyHouse" "batches" "[LHoneyHouse$Vessel;", .fieldLink RX8 120 "HoneyHouse$Lot" "grams" "I", .methodLink RX8 315 yX8_gramsIn, .static yX8_gramsIn, .code yX8_gramsIn cX8_gramsIn 5 (some .int), .methodLink RX8 181 yX7_gramsOf, .instanceMethod yX7_gramsOf, .selects RX7 yX7_gramsOf yX7_gramsOf, .initialized RX7, .code yX7_gramsOf cX7_gramsOf 2 (some .int), .fieldLink RX7 9 "HoneyHouse$Vessel" "grams" "[I"] ++ wsX80 ++ wsX20 ++ wsX70)
def wsX8_count : List Cond := .code yX8_count cX8_count 2 (some .int) :: ([.fieldLink RX8 90 "HoneyHouse" "lotCount" "I", .fieldLink RX8 170 "HoneyHouse" "batchCount" "I", .fieldLink RX8 196 "HoneyHouse" "ruleCount" "I", .fieldLink RX8 82 "HoneyHouse" "dayNow" "I"] ++ wsX80)
def wsX9_init_r1 : List Cond := [Cond.methodLink RX9 1 objectInit, Cond.instanceMethod objectInit, Cond.code objectInit ⟨#[0xb1]⟩ 1 none, Cond.arrayClass .int, Cond.fieldLink RX9 7 "HoneyHouseModel" "tape" "[I", Cond.fieldLink RX9 13 "HoneyHouseModel" "taped" "I", Cond.fieldLink RX9 17 "HoneyHouseModel" "today" "I", Cond.fieldLink RX9 20 "HoneyHouseModel" "lots" "I", Cond.fieldLink RX9 23 "HoneyHouseModel" "lot" "[I", Cond.fieldLink RX9 26 "HoneyHouseModel" "low" "[I", Cond.fieldLink RX9 29 "HoneyHouseModel" "high" "[I", Cond.fieldLink RX9 32 "HoneyHouseModel" "lotSteps" "[I", Cond.fieldLink RX9 35 "HoneyHouseModel" "steps" "[I", Cond.fieldLink RX9 38 "HoneyHouseModel" "grams" "[I", Cond.fieldLink RX9 41 "HoneyHouseModel" "heat" "[I", Cond.fieldLink RX9 44 "HoneyHouseModel" "room" "[I", Cond.fieldLink RX9 47 "HoneyHouseModel" "price" "[I", Cond.fieldLink RX9 50 "HoneyHouseModel" "batches" "I", Cond.fieldLink RX9 53 "HoneyHouseModel" "rules" "I", Cond.fieldLink RX9 56 "HoneyHouseModel" "names" "[I", Cond.fieldLink RX9 59 "HoneyHouseModel" "nameSize" "[I", Cond.fieldLink RX9 62 "HoneyHouseModel" "from" "[I", Cond.fieldLink RX9 65 "HoneyHouseModel" "shuts" "[I", Cond.fieldLink RX9 68 "HoneyHouseModel" "code" "[I"]
def wsX9_init_r2 : List Cond := [Cond.fieldLink RX9 71 "HoneyHouseModel" "codeSize" "[I", Cond.fieldLink RX9 74 "HoneyHouseModel" "faultKind" "I", Cond.fieldLink RX9 77 "HoneyHouseModel" "faultPlace" "I", Cond.fieldLink RX9 80 "HoneyHouseModel" "drawn" "[I", Cond.arrayClass .long, Cond.fieldLink RX9 83 "HoneyHouseModel" "rest" "[J", Cond.fieldLink RX9 87 "HoneyHouseModel" "at" "I", Cond.fieldLink RX9 90 "HoneyHouseModel" "size" "I", Cond.fieldLink RX9 93 "HoneyHouseModel" "begin" "I", Cond.fieldLink RX9 96 "HoneyHouseModel" "pile" "[I", Cond.fieldLink RX9 99 "HoneyHouseModel" "piled" "I", Cond.fieldLink RX9 102 "HoneyHouseModel" "made" "I", Cond.fieldLink RX9 105 "HoneyHouseModel" "deep" "I", Cond.fieldLink RX9 108 "HoneyHouseModel" "keptName" "[I", Cond.fieldLink RX9 111 "HoneyHouseModel" "keptCode" "[I", Cond.fieldLink RX9 114 "HoneyHouseModel" "held" "[I", Cond.fieldLink RX9 117 "HoneyHouseModel" "blended" "Z", Cond.fieldLink RX9 121 "HoneyHouseModel" "parts" "[I", Cond.fieldLink RX9 124 "HoneyHouseModel" "which" "[I", Cond.fieldLink RX9 127 "HoneyHouseModel" "wet" "[I", Cond.fieldLink RX9 130 "HoneyHouseModel" "dark" "[I", Cond.fieldLink RX9 133 "HoneyHouseModel" "cost" "[I", Cond.fieldLink RX9 136 "HoneyHouseModel" "there" "[I", Cond.fieldLink RX9 139 "HoneyHouseModel" "found" "[I"]
def wsX9_init_r3 : List Cond := [Cond.fieldLink RX9 142 "HoneyHouseModel" "founds" "I"]
def wsX9_init : List Cond := .code yX9_init cX9_init 1 none :: ((wsX9_init_r1 ++ (wsX9_init_r2 ++ wsX9_init_r3)) ++ wsX90)
def wsX9_is : List Cond := .code yX9_is cX9_is 3 (some .boolean) :: ([])
def wsX9_put : List Cond := .code yX9_put cX9_put 3 none :: ([.fieldLink RX9 7 "HoneyHouseModel" "tape" "[I", .fieldLink RX9 13 "HoneyHouseModel" "taped" "I"] ++ wsX90)
def wsX9_feed : List Cond := .code yX9_feed cX9_feed 6 (some .int) :: ([.fieldLink RX9 13 "HoneyHouseModel" "taped" "I", .methodLink RX9 145 yX9_put, .instanceMethod yX9_put, .selects RX9 yX9_put yX9_put, .initialized RX9, .code yX9_put cX9_put 3 none, .fieldLink RX9 7 "HoneyHouseModel" "tape" "[I"] ++ wsX90)
def wsX9_end : List Cond := .code yX9_end cX9_end 2 (some .boolean) :: ([.fieldLink RX9 13 "HoneyHouseModel" "taped" "I"] ++ wsX90)
def wsX9_today : List Cond := .code yX9_today cX9_today 2 (some .boolean) :: ([.fieldLink RX9 17 "HoneyHouseModel" "today" "I"] ++ wsX90)
def wsX9_isLot : List Cond := .code yX9_isLot cX9_isLot 2 (some .boolean) :: ([.fieldLink RX9 20 "HoneyHouseModel" "lots" "I"] ++ wsX90)
def wsX9_pay : List Cond := .code yX9_pay cX9_pay 4 (some .int) :: ([.fieldLink RX9 32 "HoneyHouseModel" "lotSteps" "[I", .fieldLink RX9 23 "HoneyHouseModel" "lot" "[I", .constantLong RX9 149 (1000)] ++ wsX90)
def wsX9_lot : List Cond := .code yX9_lot cX9_lot 8 (some .int) :: ([.constant RX9 155 (200000), .fieldLink RX9 20 "HoneyHouseModel" "lots" "I", .fieldLink RX9 23 "HoneyHouseModel" "lot" "[I", .fieldLink RX9 26 "HoneyHouseModel" "low" "[I", .fieldLink RX9 29 "HoneyHouseModel" "high" "[I", .fieldLink RX9 32 "HoneyHouseModel" "lotSteps" "[I", .fieldLink RX9 35 "HoneyHouseModel" "steps" "[I", .methodLink RX9 151 yX9_is, .static yX9_is, .initialized RX9, .code yX9_is cX9_is 3 (some .boolean), .methodLink RX9 156 yX9_pay, .instanceMethod yX9_pay, .selects RX9 yX9_pay yX9_pay, .code yX9_pay cX9_pay 4 (some .int), .constantLong RX9 149 (1000)] ++ wsX90)
def wsX9_pollen : List Cond := .code yX9_pollen cX9_pollen 8 (some .boolean) :: ([.fieldLink RX9 26 "HoneyHouseModel" "low" "[I", .fieldLink RX9 29 "HoneyHouseModel" "high" "[I", .methodLink RX9 160 yX9_isLot, .instanceMethod yX9_isLot, .selects RX9 yX9_isLot yX9_isLot, .initialized RX9, .code yX9_isLot cX9_isLot 2 (some .boolean), .fieldLink RX9 20 "HoneyHouseModel" "lots" "I", .methodLink RX9 151 yX9_is, .static yX9_is, .code yX9_is cX9_is 3 (some .boolean)] ++ wsX90)
def wsX9_test : List Cond := .code yX9_test cX9_test 4 (some .int) :: ([.constant RX9 164 (-1000000000), .fieldLink RX9 23 "HoneyHouseModel" "lot" "[I", .methodLink RX9 160 yX9_isLot, .instanceMethod yX9_isLot, .selects RX9 yX9_isLot yX9_isLot, .initialized RX9, .code yX9_isLot cX9_isLot 2 (some .boolean), .fieldLink RX9 20 "HoneyHouseModel" "lots" "I", .methodLink RX9 151 yX9_is, .static yX9_is, .code yX9_is cX9_is 3 (some .boolean), .methodLink RX9 156 yX9_pay, .instanceMethod yX9_pay, .selects RX9 yX9_pay yX9_pay, .code yX9_pay cX9_pay 4 (some .int), .fieldLink RX9 32 "HoneyHouseModel" "lotSteps" "[I", .constantLong RX9 149 (1000)] ++ wsX90)
def wsX9_of : List Cond := .code yX9_of cX9_of 3 (some .int) :: ([.fieldLink RX9 23 "HoneyHouseModel" "lot" "[I", .methodLink RX9 160 yX9_isLot, .instanceMethod yX9_isLot, .selects RX9 yX9_isLot yX9_isLot, .initialized RX9, .code yX9_isLot cX9_isLot 2 (some .boolean), .fieldLink RX9 20 "HoneyHouseModel" "lots" "I", .methodLink RX9 151 yX9_is, .static yX9_is, .code yX9_is cX9_is 3 (some .boolean)] ++ wsX90)
def wsX9_span : List Cond := .code yX9_span cX9_span 4 (some .int) :: ([.fieldLink RX9 26 "HoneyHouseModel" "low" "[I", .fieldLink RX9 29 "HoneyHouseModel" "high" "[I", .methodLink RX9 160 yX9_isLot, .instanceMethod yX9_isLot, .selects RX9 yX9_isLot yX9_isLot, .initialized RX9, .code yX9_isLot cX9_isLot 2 (some .boolean), .fieldLink RX9 20 "HoneyHouseModel" "lots" "I", .methodLink RX9 151 yX9_is, .static yX9_is, .code yX9_is cX9_is 3 (some .boolean)] ++ wsX90)
def wsX9_isTank : List Cond := .code yX9_isTank cX9_isTank 1 (some .boolean) :: ([])
def wsX9_row : List Cond := .code yX9_row cX9_row 3 (some .int) :: ([.fieldLink RX9 50 "HoneyHouseModel" "batches" "I", .methodLink RX9 165 yX9_isTank, .static yX9_isTank, .initialized RX9, .code yX9_isTank cX9_isTank 1 (some .boolean)] ++ wsX90)
def wsX9_all : List Cond := .code yX9_all cX9_all 4 (some .int) :: ([.fieldLink RX9 20 "HoneyHouseModel" "lots" "I", .fieldLink RX9 38 "HoneyHouseModel" "grams" "[I"] ++ wsX90)
def wsX9_tank : List Cond := .code yX9_tank cX9_tank 4 (some .boolean) :: ([.constant RX9 168 (1000000), .fieldLink RX9 44 "HoneyHouseModel" "room" "[I", .fieldLink RX9 47 "HoneyHouseModel" "price" "[I", .methodLink RX9 165 yX9_isTank, .static yX9_isTank, .initialized RX9, .code yX9_isTank cX9_isTank 1 (some .boolean), .methodLink RX9 151 yX9_is, .static yX9_is, .code yX9_is cX9_is 3 (some .boolean), .methodLink RX9 169 yX9_all, .instanceMethod yX9_all, .selects RX9 yX9_all yX9_all, .code yX9_all cX9_all 4 (some .int), .fieldLink RX9 20 "HoneyHouseModel" "lots" "I", .fieldLink RX9 38 "HoneyHouseModel" "grams" "[I"] ++ wsX90)
def wsX9_pour : List Cond := .code yX9_pour cX9_pour 4 (some .int) :: ([.fieldLink RX9 23 "HoneyHouseModel" "lot" "[I", .fieldLink RX9 44 "HoneyHouseModel" "room" "[I", .fieldLink RX9 38 "HoneyHouseModel" "grams" "[I", .methodLink RX9 160 yX9_isLot, .instanceMethod yX9_isLot, .selects RX9 yX9_isLot yX9_isLot, .initialized RX9, .code yX9_isLot cX9_isLot 2 (some .boolean), .fieldLink RX9 20 "HoneyHouseModel" "lots" "I", .methodLink RX9 165 yX9_isTank, .static yX9_isTank, .code yX9_isTank cX9_isTank 1 (some .boolean), .methodLink RX9 169 yX9_all, .instanceMethod yX9_all, .selects RX9 yX9_all yX9_all, .code yX9_all cX9_all 4 (some .int)] ++ wsX90)
def wsX9_draw : List Cond := .code yX9_draw cX9_draw 9 none :: ([.fieldLink RX9 20 "HoneyHouseModel" "lots" "I", .fieldLink RX9 38 "HoneyHouseModel" "grams" "[I", .fieldLink RX9 80 "HoneyHouseModel" "drawn" "[I", .fieldLink RX9 83 "HoneyHouseModel" "rest" "[J", .constantLong RX9 173 (-1), .fieldLink RX9 41 "HoneyHouseModel" "heat" "[I", .methodLink RX9 169 yX9_all, .instanceMethod yX9_all, .selects RX9 yX9_all yX9_all, .initialized RX9, .code yX9_all cX9_all 4 (some .int)] ++ wsX90)
def wsX9_move : List Cond := .code yX9_move cX9_move 6 (some .int) :: ([.fieldLink RX9 44 "HoneyHouseModel" "room" "[I", .fieldLink RX9 41 "HoneyHouseModel" "heat" "[I", .fieldLink RX9 20 "HoneyHouseModel" "lots" "I", .fieldLink RX9 38 "HoneyHouseModel" "grams" "[I", .fieldLink RX9 80 "HoneyHouseModel" "drawn" "[I", .methodLink RX9 165 yX9_isTank, .static yX9_isTank, .initialized RX9, .code yX9_isTank cX9_isTank 1 (some .boolean), .methodLink RX9 169 yX9_all, .instanceMethod yX9_all, .selects RX9 yX9_all yX9_all, .code yX9_all cX9_all 4 (some .int), .methodLink RX9 175 yX9_draw, .instanceMethod yX9_draw, .selects RX9 yX9_draw yX9_draw, .code yX9_draw cX9_draw 9 none, .fieldLink RX9 83 "HoneyHouseModel" "rest" "[J", .constantLong RX9 173 (-1)] ++ wsX90)
def wsX9_warm : List Cond := .code yX9_warm cX9_warm 3 (some .int) :: ([.fieldLink RX9 41 "HoneyHouseModel" "heat" "[I", .methodLink RX9 165 yX9_isTank, .static yX9_isTank, .initialized RX9, .code yX9_isTank cX9_isTank 1 (some .boolean), .methodLink RX9 169 yX9_all, .instanceMethod yX9_all, .selects RX9 yX9_all yX9_all, .code yX9_all cX9_all 4 (some .int), .fieldLink RX9 20 "HoneyHouseModel" "lots" "I", .fieldLink RX9 38 "HoneyHouseModel" "grams" "[I", .methodLink RX9 151 yX9_is, .static yX9_is, .code yX9_is cX9_is 3 (some .boolean)] ++ wsX90)
def wsX9_jar : List Cond := .code yX9_jar cX9_jar 5 (some .int) :: ([.fieldLink RX9 50 "HoneyHouseModel" "batches" "I", .fieldLink RX9 41 "HoneyHouseModel" "heat" "[I", .fieldLink RX9 44 "HoneyHouseModel" "room" "[I", .fieldLink RX9 47 "HoneyHouseModel" "price" "[I", .fieldLink RX9 17 "HoneyHouseModel" "today" "I", .fieldLink RX9 38 "HoneyHouseModel" "grams" "[I", .fieldLink RX9 20 "HoneyHouseModel" "lots" "I", .fieldLink RX9 80 "HoneyHouseModel" "drawn" "[I", .methodLink RX9 165 yX9_isTank, .static yX9_isTank, .initialized RX9, .code yX9_isTank cX9_isTank 1 (some .boolean), .methodLink RX9 169 yX9_all, .instanceMethod yX9_all, .selects RX9 yX9_all yX9_all, .code yX9_all cX9_all 4 (some .int), .methodLink RX9 175 yX9_draw, .instanceMethod yX9_draw, .selects RX9 yX9_draw yX9_draw, .code yX9_draw cX9_draw 9 none, .fieldLink RX9 83 "HoneyHouseModel" "rest" "[J", .constantLong RX9 173 (-1)] ++ wsX90)
def wsX9_spill : List Cond := .code yX9_spill cX9_spill 3 (some .int) :: ([.methodLink RX9 165 yX9_isTank, .static yX9_isTank, .initialized RX9, .code yX9_isTank cX9_isTank 1 (some .boolean), .methodLink RX9 169 yX9_all, .instanceMethod yX9_all, .selects RX9 yX9_all yX9_all, .code yX9_all cX9_all 4 (some .int), .fieldLink RX9 20 "HoneyHouseModel" "lots" "I", .fieldLink RX9 38 "HoneyHouseModel" "grams" "[I", .methodLink RX9 175 yX9_draw, .instanceMethod yX9_draw, .selects RX9 yX9_draw yX9_draw, .code yX9_draw cX9_draw 9 none, .fieldLink RX9 80 "HoneyHouseModel" "drawn" "[I", .fieldLink RX9 83 "HoneyHouseModel" "rest" "[J", .constantLong RX9 173 (-1), .fieldLink RX9 41 "HoneyHouseModel" "heat" "[I"] ++ wsX90)
def wsX9_holds : List Cond := .code yX9_holds cX9_holds 7 (some .int) :: ([.fieldLink RX9 20 "HoneyHouseModel" "lots" "I", .fieldLink RX9 38 "HoneyHouseModel" "grams" "[I", .fieldLink RX9 41 "HoneyHouseModel" "heat" "[I", .fieldLink RX9 44 "HoneyHouseModel" "room" "[I", .fieldLink RX9 47 "HoneyHouseModel" "price" "[I", .methodLink RX9 179 yX9_row, .instanceMethod yX9_row, .selects RX9 yX9_row yX9_row, .initialized RX9, .code yX9_row cX9_row 3 (some .int), .fieldLink RX9 50 "HoneyHouseModel" "batches" "I", .methodLink RX9 165 yX9_isTank, .static yX9_isTank, .code yX9_isTank cX9_isTank 1 (some .boolean), .methodLink RX9 169 yX9_all, .instanceMethod yX9_all, .selects RX9 yX9_all yX9_all, .code yX9_all cX9_all 4 (some .int)] ++ wsX90)
def wsX9_part : List Cond := .code yX9_part cX9_part 5 (some .int) :: ([.fieldLink RX9 38 "HoneyHouseModel" "grams" "[I", .methodLink RX9 179 yX9_row, .instanceMethod yX9_row, .selects RX9 yX9_row yX9_row, .initialized RX9, .code yX9_row cX9_row 3 (some .int), .fieldLink RX9 50 "HoneyHouseModel" "batches" "I", .methodLink RX9 165 yX9_isTank, .static yX9_isTank, .code yX9_isTank cX9_isTank 1 (some .boolean), .methodLink RX9 160 yX9_isLot, .instanceMethod yX9_isLot, .selects RX9 yX9_isLot yX9_isLot, .code yX9_isLot cX9_isLot 2 (some .boolean), .fieldLink RX9 20 "HoneyHouseModel" "lots" "I"] ++ wsX90)
def wsX9_sum : List Cond := .code yX9_sum cX9_sum 7 (some .long) :: ([.fieldLink RX9 20 "HoneyHouseModel" "lots" "I", .fieldLink RX9 23 "HoneyHouseModel" "lot" "[I", .fieldLink RX9 26 "HoneyHouseModel" "low" "[I", .fieldLink RX9 29 "HoneyHouseModel" "high" "[I", .fieldLink RX9 38 "HoneyHouseModel" "grams" "[I"] ++ wsX90)
def wsX9_isMeasure : List Cond := .code yX9_isMeasure cX9_isMeasure 1 (some .boolean) :: ([.methodLink RX9 151 yX9_is, .static yX9_is, .initialized RX9, .code yX9_is cX9_is 3 (some .boolean)])
def wsX9_measure_r1 : List Cond := [Cond.fieldLink RX9 41 "HoneyHouseModel" "heat" "[I", Cond.constantLong RX9 185 (10), Cond.methodLink RX9 179 yX9_row, Cond.instanceMethod yX9_row, Cond.selects RX9 yX9_row yX9_row, Cond.initialized RX9, Cond.code yX9_row cX9_row 3 (some .int), Cond.fieldLink RX9 50 "HoneyHouseModel" "batches" "I", Cond.methodLink RX9 165 yX9_isTank, Cond.static yX9_isTank, Cond.code yX9_isTank cX9_isTank 1 (some .boolean), Cond.methodLink RX9 169 yX9_all, Cond.instanceMethod yX9_all, Cond.selects RX9 yX9_all yX9_all, Cond.code yX9_all cX9_all 4 (some .int), Cond.fieldLink RX9 20 "HoneyHouseModel" "lots" "I", Cond.fieldLink RX9 38 "HoneyHouseModel" "grams" "[I", Cond.methodLink RX9 182 yX9_isMeasure, Cond.static yX9_isMeasure, Cond.code yX9_isMeasure cX9_isMeasure 1 (some .boolean), Cond.methodLink RX9 151 yX9_is, Cond.static yX9_is, Cond.code yX9_is cX9_is 3 (some .boolean), Cond.methodLink RX9 187 yX9_sum]
def wsX9_measure_r2 : List Cond := [Cond.instanceMethod yX9_sum, Cond.selects RX9 yX9_sum yX9_sum, Cond.code yX9_sum cX9_sum 7 (some .long), Cond.fieldLink RX9 23 "HoneyHouseModel" "lot" "[I", Cond.fieldLink RX9 26 "HoneyHouseModel" "low" "[I", Cond.fieldLink RX9 29 "HoneyHouseModel" "high" "[I"]
def wsX9_measure : List Cond := .code yX9_measure cX9_measure 5 (some .int) :: ((wsX9_measure_r1 ++ wsX9_measure_r2) ++ wsX90)
def wsX9_isLetter : List Cond := .code yX9_isLetter cX9_isLetter 1 (some .boolean) :: ([])
def wsX9_isDigit : List Cond := .code yX9_isDigit cX9_isDigit 1 (some .boolean) :: ([])
def wsX9_blame : List Cond := .code yX9_blame cX9_blame 3 none :: ([.fieldLink RX9 74 "HoneyHouseModel" "faultKind" "I", .fieldLink RX9 77 "HoneyHouseModel" "faultPlace" "I"] ++ wsX90)
def wsX9_here : List Cond := .code yX9_here cX9_here 1 (some .int) :: ([.fieldLink RX9 87 "HoneyHouseModel" "at" "I", .fieldLink RX9 90 "HoneyHouseModel" "size" "I", .fieldLink RX9 7 "HoneyHouseModel" "tape" "[I"] ++ wsX90)
def wsX9_must : List Cond := .code yX9_must cX9_must 2 none :: ([.fieldLink RX9 87 "HoneyHouseModel" "at" "I", .methodLink RX9 191 yX9_here, .instanceMethod yX9_here, .selects RX9 yX9_here yX9_here, .initialized RX9, .code yX9_here cX9_here 1 (some .int), .fieldLink RX9 90 "HoneyHouseModel" "size" "I", .fieldLink RX9 7 "HoneyHouseModel" "tape" "[I", .methodLink RX9 195 yX9_blame, .instanceMethod yX9_blame, .selects RX9 yX9_blame yX9_blame, .code yX9_blame cX9_blame 3 none, .fieldLink RX9 74 "HoneyHouseModel" "faultKind" "I", .fieldLink RX9 77 "HoneyHouseModel" "faultPlace" "I"] ++ wsX90)
def wsX9_spells : List Cond := .code yX9_spells cX9_spells 7 (some .boolean) :: ([.fieldLink RX9 87 "HoneyHouseModel" "at" "I", .fieldLink RX9 7 "HoneyHouseModel" "tape" "[I", .constantLong RX9 198 (255)] ++ wsX90)
def wsX9_word : List Cond := .code yX9_word cX9_word 2 (some .int) :: ([.constantLong RX9 200 (1718775661), .constantLong RX9 206 (28530), .constantLong RX9 208 (6385252), .constantLong RX9 210 (7237492), .constantLong RX9 212 (512736126322), .constantLong RX9 214 (109330211763570), .constantLong RX9 216 (1751474548), .constantLong RX9 218 (123623862723950), .constantLong RX9 220 (1818324580), .constantLong RX9 222 (7170414), .constantLong RX9 224 (7168376), .methodLink RX9 202 yX9_spells, .instanceMethod yX9_spells, .selects RX9 yX9_spells yX9_spells, .initialized RX9, .code yX9_spells cX9_spells 7 (some .boolean), .fieldLink RX9 87 "HoneyHouseModel" "at" "I", .fieldLink RX9 7 "HoneyHouseModel" "tape" "[I", .constantLong RX9 198 (255)] ++ wsX90)
def wsX9_wordEnd : List Cond := .code yX9_wordEnd cX9_wordEnd 2 (some .int) :: ([.fieldLink RX9 87 "HoneyHouseModel" "at" "I", .fieldLink RX9 90 "HoneyHouseModel" "size" "I", .fieldLink RX9 7 "HoneyHouseModel" "tape" "[I", .methodLink RX9 226 yX9_isLetter, .static yX9_isLetter, .initialized RX9, .code yX9_isLetter cX9_isLetter 1 (some .boolean)] ++ wsX90)
def wsX9_peek_r1 : List Cond := [Cond.methodLink RX9 191 yX9_here, Cond.instanceMethod yX9_here, Cond.selects RX9 yX9_here yX9_here, Cond.initialized RX9, Cond.code yX9_here cX9_here 1 (some .int), Cond.fieldLink RX9 87 "HoneyHouseModel" "at" "I", Cond.fieldLink RX9 90 "HoneyHouseModel" "size" "I", Cond.fieldLink RX9 7 "HoneyHouseModel" "tape" "[I", Cond.methodLink RX9 226 yX9_isLetter, Cond.static yX9_isLetter, Cond.code yX9_isLetter cX9_isLetter 1 (some .boolean), Cond.methodLink RX9 229 yX9_wordEnd, Cond.instanceMethod yX9_wordEnd, Cond.selects RX9 yX9_wordEnd yX9_wordEnd, Cond.code yX9_wordEnd cX9_wordEnd 2 (some .int), Cond.methodLink RX9 232 yX9_word, Cond.instanceMethod yX9_word, Cond.selects RX9 yX9_word yX9_word, Cond.code yX9_word cX9_word 2 (some .int), Cond.constantLong RX9 200 (1718775661), Cond.constantLong RX9 206 (28530), Cond.constantLong RX9 208 (6385252), Cond.constantLong RX9 210 (7237492), Cond.constantLong RX9 212 (512736126322)]
def wsX9_peek_r2 : List Cond := [Cond.constantLong RX9 214 (109330211763570), Cond.constantLong RX9 216 (1751474548), Cond.constantLong RX9 218 (123623862723950), Cond.constantLong RX9 220 (1818324580), Cond.constantLong RX9 222 (7170414), Cond.constantLong RX9 224 (7168376), Cond.methodLink RX9 202 yX9_spells, Cond.instanceMethod yX9_spells, Cond.selects RX9 yX9_spells yX9_spells, Cond.code yX9_spells cX9_spells 7 (some .boolean), Cond.constantLong RX9 198 (255)]
def wsX9_peek : List Cond := .code yX9_peek cX9_peek 1 (some .int) :: ((wsX9_peek_r1 ++ wsX9_peek_r2) ++ wsX90)
def wsX9_number : List Cond := .code yX9_number cX9_number 5 (some .int) :: ([.fieldLink RX9 87 "HoneyHouseModel" "at" "I", .fieldLink RX9 90 "HoneyHouseModel" "size" "I", .fieldLink RX9 7 "HoneyHouseModel" "tape" "[I", .fieldLink RX9 74 "HoneyHouseModel" "faultKind" "I", .methodLink RX9 191 yX9_here, .instanceMethod yX9_here, .selects RX9 yX9_here yX9_here, .initialized RX9, .code yX9_here cX9_here 1 (some .int), .methodLink RX9 235 yX9_isDigit, .static yX9_isDigit, .code yX9_isDigit cX9_isDigit 1 (some .boolean), .methodLink RX9 195 yX9_blame, .instanceMethod yX9_blame, .selects RX9 yX9_blame yX9_blame, .code yX9_blame cX9_blame 3 none, .fieldLink RX9 77 "HoneyHouseModel" "faultPlace" "I"] ++ wsX90)
def wsX9_name_r1 : List Cond := [Cond.fieldLink RX9 87 "HoneyHouseModel" "at" "I", Cond.fieldLink RX9 74 "HoneyHouseModel" "faultKind" "I", Cond.fieldLink RX9 59 "HoneyHouseModel" "nameSize" "[I", Cond.fieldLink RX9 53 "HoneyHouseModel" "rules" "I", Cond.fieldLink RX9 56 "HoneyHouseModel" "names" "[I", Cond.fieldLink RX9 7 "HoneyHouseModel" "tape" "[I", Cond.methodLink RX9 191 yX9_here, Cond.instanceMethod yX9_here, Cond.selects RX9 yX9_here yX9_here, Cond.initialized RX9, Cond.code yX9_here cX9_here 1 (some .int), Cond.fieldLink RX9 90 "HoneyHouseModel" "size" "I", Cond.methodLink RX9 226 yX9_isLetter, Cond.static yX9_isLetter, Cond.code yX9_isLetter cX9_isLetter 1 (some .boolean), Cond.methodLink RX9 195 yX9_blame, Cond.instanceMethod yX9_blame, Cond.selects RX9 yX9_blame yX9_blame, Cond.code yX9_blame cX9_blame 3 none, Cond.fieldLink RX9 77 "HoneyHouseModel" "faultPlace" "I", Cond.methodLink RX9 229 yX9_wordEnd, Cond.instanceMethod yX9_wordEnd, Cond.selects RX9 yX9_wordEnd yX9_wordEnd, Cond.code yX9_wordEnd cX9_wordEnd 2 (some .int)]
def wsX9_name_r2 : List Cond := [Cond.methodLink RX9 232 yX9_word, Cond.instanceMethod yX9_word, Cond.selects RX9 yX9_word yX9_word, Cond.code yX9_word cX9_word 2 (some .int), Cond.constantLong RX9 200 (1718775661), Cond.constantLong RX9 206 (28530), Cond.constantLong RX9 208 (6385252), Cond.constantLong RX9 210 (7237492), Cond.constantLong RX9 212 (512736126322), Cond.constantLong RX9 214 (109330211763570), Cond.constantLong RX9 216 (1751474548), Cond.constantLong RX9 218 (123623862723950), Cond.constantLong RX9 220 (1818324580), Cond.constantLong RX9 222 (7170414), Cond.constantLong RX9 224 (7168376), Cond.methodLink RX9 202 yX9_spells, Cond.instanceMethod yX9_spells, Cond.selects RX9 yX9_spells yX9_spells, Cond.code yX9_spells cX9_spells 7 (some .boolean), Cond.constantLong RX9 198 (255)]
def wsX9_name : List Cond := .code yX9_name cX9_name 3 none :: ((wsX9_name_r1 ++ wsX9_name_r2) ++ wsX90)
def wsX9_add : List Cond := .code yX9_add cX9_add 2 none :: ([.fieldLink RX9 68 "HoneyHouseModel" "code" "[I", .fieldLink RX9 53 "HoneyHouseModel" "rules" "I", .fieldLink RX9 102 "HoneyHouseModel" "made" "I"] ++ wsX90)
def wsX9_test__r1 : List Cond := [Cond.fieldLink RX9 87 "HoneyHouseModel" "at" "I", Cond.fieldLink RX9 74 "HoneyHouseModel" "faultKind" "I", Cond.methodLink RX9 238 yX9_peek, Cond.instanceMethod yX9_peek, Cond.selects RX9 yX9_peek yX9_peek, Cond.initialized RX9, Cond.code yX9_peek cX9_peek 1 (some .int), Cond.methodLink RX9 191 yX9_here, Cond.instanceMethod yX9_here, Cond.selects RX9 yX9_here yX9_here, Cond.code yX9_here cX9_here 1 (some .int), Cond.fieldLink RX9 90 "HoneyHouseModel" "size" "I", Cond.fieldLink RX9 7 "HoneyHouseModel" "tape" "[I", Cond.methodLink RX9 226 yX9_isLetter, Cond.static yX9_isLetter, Cond.code yX9_isLetter cX9_isLetter 1 (some .boolean), Cond.methodLink RX9 229 yX9_wordEnd, Cond.instanceMethod yX9_wordEnd, Cond.selects RX9 yX9_wordEnd yX9_wordEnd, Cond.code yX9_wordEnd cX9_wordEnd 2 (some .int), Cond.methodLink RX9 232 yX9_word, Cond.instanceMethod yX9_word, Cond.selects RX9 yX9_word yX9_word, Cond.code yX9_word cX9_word 2 (some .int)]
def wsX9_test__r2 : List Cond := [Cond.constantLong RX9 200 (1718775661), Cond.constantLong RX9 206 (28530), Cond.constantLong RX9 208 (6385252), Cond.constantLong RX9 210 (7237492), Cond.constantLong RX9 212 (512736126322), Cond.constantLong RX9 214 (109330211763570), Cond.constantLong RX9 216 (1751474548), Cond.constantLong RX9 218 (123623862723950), Cond.constantLong RX9 220 (1818324580), Cond.constantLong RX9 222 (7170414), Cond.constantLong RX9 224 (7168376), Cond.methodLink RX9 202 yX9_spells, Cond.instanceMethod yX9_spells, Cond.selects RX9 yX9_spells yX9_spells, Cond.code yX9_spells cX9_spells 7 (some .boolean), Cond.constantLong RX9 198 (255), Cond.methodLink RX9 195 yX9_blame, Cond.instanceMethod yX9_blame, Cond.selects RX9 yX9_blame yX9_blame, Cond.code yX9_blame cX9_blame 3 none, Cond.fieldLink RX9 77 "HoneyHouseModel" "faultPlace" "I", Cond.methodLink RX9 241 yX9_number, Cond.instanceMethod yX9_number, Cond.selects RX9 yX9_number yX9_number]
def wsX9_test__r3 : List Cond := [Cond.code yX9_number cX9_number 5 (some .int), Cond.methodLink RX9 235 yX9_isDigit, Cond.static yX9_isDigit, Cond.code yX9_isDigit cX9_isDigit 1 (some .boolean), Cond.methodLink RX9 244 yX9_add, Cond.instanceMethod yX9_add, Cond.selects RX9 yX9_add yX9_add, Cond.code yX9_add cX9_add 2 none, Cond.fieldLink RX9 68 "HoneyHouseModel" "code" "[I", Cond.fieldLink RX9 53 "HoneyHouseModel" "rules" "I", Cond.fieldLink RX9 102 "HoneyHouseModel" "made" "I"]
def wsX9_test_ : List Cond := .code yX9_test_ cX9_test_ 5 none :: ((wsX9_test__r1 ++ (wsX9_test__r2 ++ wsX9_test__r3)) ++ wsX90)
def wsX9_nots : List Cond := .code yX9_nots cX9_nots 1 none :: ([.fieldLink RX9 99 "HoneyHouseModel" "piled" "I", .fieldLink RX9 96 "HoneyHouseModel" "pile" "[I", .fieldLink RX9 105 "HoneyHouseModel" "deep" "I", .methodLink RX9 244 yX9_add, .instanceMethod yX9_add, .selects RX9 yX9_add yX9_add, .initialized RX9, .code yX9_add cX9_add 2 none, .fieldLink RX9 68 "HoneyHouseModel" "code" "[I", .fieldLink RX9 53 "HoneyHouseModel" "rules" "I", .fieldLink RX9 102 "HoneyHouseModel" "made" "I"] ++ wsX90)
def wsX9_joins : List Cond := .code yX9_joins cX9_joins 2 none :: ([.fieldLink RX9 99 "HoneyHouseModel" "piled" "I", .fieldLink RX9 96 "HoneyHouseModel" "pile" "[I", .methodLink RX9 244 yX9_add, .instanceMethod yX9_add, .selects RX9 yX9_add yX9_add, .initialized RX9, .code yX9_add cX9_add 2 none, .fieldLink RX9 68 "HoneyHouseModel" "code" "[I", .fieldLink RX9 53 "HoneyHouseModel" "rules" "I", .fieldLink RX9 102 "HoneyHouseModel" "made" "I"] ++ wsX90)
def wsX9_opens : List Cond := .code yX9_opens cX9_opens 2 none :: ([.fieldLink RX9 105 "HoneyHouseModel" "deep" "I", .fieldLink RX9 87 "HoneyHouseModel" "at" "I", .fieldLink RX9 74 "HoneyHouseModel" "faultKind" "I", .fieldLink RX9 96 "HoneyHouseModel" "pile" "[I", .fieldLink RX9 99 "HoneyHouseModel" "piled" "I", .methodLink RX9 195 yX9_blame, .instanceMethod yX9_blame, .selects RX9 yX9_blame yX9_blame, .initialized RX9, .code yX9_blame cX9_blame 3 none, .fieldLink RX9 77 "HoneyHouseModel" "faultPlace" "I", .methodLink RX9 229 yX9_wordEnd, .instanceMethod yX9_wordEnd, .selects RX9 yX9_wordEnd yX9_wordEnd, .code yX9_wordEnd cX9_wordEnd 2 (some .int), .fieldLink RX9 90 "HoneyHouseModel" "size" "I", .fieldLink RX9 7 "HoneyHouseModel" "tape" "[I", .methodLink RX9 226 yX9_isLetter, .static yX9_isLetter, .code yX9_isLetter cX9_isLetter 1 (some .boolean)] ++ wsX90)
def wsX9_brackets : List Cond := .code yX9_brackets cX9_brackets 3 (some .int) :: ([.fieldLink RX9 99 "HoneyHouseModel" "piled" "I", .fieldLink RX9 96 "HoneyHouseModel" "pile" "[I"] ++ wsX90)
def wsX9_either_r1 : List Cond := [Cond.fieldLink RX9 99 "HoneyHouseModel" "piled" "I", Cond.fieldLink RX9 102 "HoneyHouseModel" "made" "I", Cond.fieldLink RX9 105 "HoneyHouseModel" "deep" "I", Cond.fieldLink RX9 74 "HoneyHouseModel" "faultKind" "I", Cond.fieldLink RX9 96 "HoneyHouseModel" "pile" "[I", Cond.fieldLink RX9 87 "HoneyHouseModel" "at" "I", Cond.methodLink RX9 191 yX9_here, Cond.instanceMethod yX9_here, Cond.selects RX9 yX9_here yX9_here, Cond.initialized RX9, Cond.code yX9_here cX9_here 1 (some .int), Cond.fieldLink RX9 90 "HoneyHouseModel" "size" "I", Cond.fieldLink RX9 7 "HoneyHouseModel" "tape" "[I", Cond.methodLink RX9 238 yX9_peek, Cond.instanceMethod yX9_peek, Cond.selects RX9 yX9_peek yX9_peek, Cond.code yX9_peek cX9_peek 1 (some .int), Cond.methodLink RX9 226 yX9_isLetter, Cond.static yX9_isLetter, Cond.code yX9_isLetter cX9_isLetter 1 (some .boolean), Cond.methodLink RX9 229 yX9_wordEnd, Cond.instanceMethod yX9_wordEnd, Cond.selects RX9 yX9_wordEnd yX9_wordEnd, Cond.code yX9_wordEnd cX9_wordEnd 2 (some .int)]
def wsX9_either_r2 : List Cond := [Cond.methodLink RX9 232 yX9_word, Cond.instanceMethod yX9_word, Cond.selects RX9 yX9_word yX9_word, Cond.code yX9_word cX9_word 2 (some .int), Cond.constantLong RX9 200 (1718775661), Cond.constantLong RX9 206 (28530), Cond.constantLong RX9 208 (6385252), Cond.constantLong RX9 210 (7237492), Cond.constantLong RX9 212 (512736126322), Cond.constantLong RX9 214 (109330211763570), Cond.constantLong RX9 216 (1751474548), Cond.constantLong RX9 218 (123623862723950), Cond.constantLong RX9 220 (1818324580), Cond.constantLong RX9 222 (7170414), Cond.constantLong RX9 224 (7168376), Cond.methodLink RX9 202 yX9_spells, Cond.instanceMethod yX9_spells, Cond.selects RX9 yX9_spells yX9_spells, Cond.code yX9_spells cX9_spells 7 (some .boolean), Cond.constantLong RX9 198 (255), Cond.methodLink RX9 247 yX9_opens, Cond.instanceMethod yX9_opens, Cond.selects RX9 yX9_opens yX9_opens, Cond.code yX9_opens cX9_opens 2 none]
def wsX9_either_r3 : List Cond := [Cond.methodLink RX9 195 yX9_blame, Cond.instanceMethod yX9_blame, Cond.selects RX9 yX9_blame yX9_blame, Cond.code yX9_blame cX9_blame 3 none, Cond.fieldLink RX9 77 "HoneyHouseModel" "faultPlace" "I", Cond.methodLink RX9 250 yX9_test_, Cond.instanceMethod yX9_test_, Cond.selects RX9 yX9_test_ yX9_test_, Cond.code yX9_test_ cX9_test_ 5 none, Cond.methodLink RX9 241 yX9_number, Cond.instanceMethod yX9_number, Cond.selects RX9 yX9_number yX9_number, Cond.code yX9_number cX9_number 5 (some .int), Cond.methodLink RX9 235 yX9_isDigit, Cond.static yX9_isDigit, Cond.code yX9_isDigit cX9_isDigit 1 (some .boolean), Cond.methodLink RX9 244 yX9_add, Cond.instanceMethod yX9_add, Cond.selects RX9 yX9_add yX9_add, Cond.code yX9_add cX9_add 2 none, Cond.fieldLink RX9 68 "HoneyHouseModel" "code" "[I", Cond.fieldLink RX9 53 "HoneyHouseModel" "rules" "I", Cond.methodLink RX9 253 yX9_nots, Cond.instanceMethod yX9_nots]
def wsX9_either_r4 : List Cond := [Cond.selects RX9 yX9_nots yX9_nots, Cond.code yX9_nots cX9_nots 1 none, Cond.methodLink RX9 256 yX9_joins, Cond.instanceMethod yX9_joins, Cond.selects RX9 yX9_joins yX9_joins, Cond.code yX9_joins cX9_joins 2 none, Cond.methodLink RX9 259 yX9_brackets, Cond.instanceMethod yX9_brackets, Cond.selects RX9 yX9_brackets yX9_brackets, Cond.code yX9_brackets cX9_brackets 3 (some .int)]
def wsX9_either : List Cond := .code yX9_either cX9_either 5 none :: ((wsX9_either_r1 ++ (wsX9_either_r2 ++ (wsX9_either_r3 ++ wsX9_either_r4))) ++ wsX90)
def wsX9_reads_r1 : List Cond := [Cond.fieldLink RX9 87 "HoneyHouseModel" "at" "I", Cond.fieldLink RX9 74 "HoneyHouseModel" "faultKind" "I", Cond.fieldLink RX9 62 "HoneyHouseModel" "from" "[I", Cond.fieldLink RX9 53 "HoneyHouseModel" "rules" "I", Cond.methodLink RX9 268 yX9_name, Cond.instanceMethod yX9_name, Cond.selects RX9 yX9_name yX9_name, Cond.initialized RX9, Cond.code yX9_name cX9_name 3 none, Cond.fieldLink RX9 59 "HoneyHouseModel" "nameSize" "[I", Cond.fieldLink RX9 56 "HoneyHouseModel" "names" "[I", Cond.fieldLink RX9 7 "HoneyHouseModel" "tape" "[I", Cond.methodLink RX9 191 yX9_here, Cond.instanceMethod yX9_here, Cond.selects RX9 yX9_here yX9_here, Cond.code yX9_here cX9_here 1 (some .int), Cond.fieldLink RX9 90 "HoneyHouseModel" "size" "I", Cond.methodLink RX9 226 yX9_isLetter, Cond.static yX9_isLetter, Cond.code yX9_isLetter cX9_isLetter 1 (some .boolean), Cond.methodLink RX9 195 yX9_blame, Cond.instanceMethod yX9_blame, Cond.selects RX9 yX9_blame yX9_blame, Cond.code yX9_blame cX9_blame 3 none]
def wsX9_reads_r2 : List Cond := [Cond.fieldLink RX9 77 "HoneyHouseModel" "faultPlace" "I", Cond.methodLink RX9 229 yX9_wordEnd, Cond.instanceMethod yX9_wordEnd, Cond.selects RX9 yX9_wordEnd yX9_wordEnd, Cond.code yX9_wordEnd cX9_wordEnd 2 (some .int), Cond.methodLink RX9 232 yX9_word, Cond.instanceMethod yX9_word, Cond.selects RX9 yX9_word yX9_word, Cond.code yX9_word cX9_word 2 (some .int), Cond.constantLong RX9 200 (1718775661), Cond.constantLong RX9 206 (28530), Cond.constantLong RX9 208 (6385252), Cond.constantLong RX9 210 (7237492), Cond.constantLong RX9 212 (512736126322), Cond.constantLong RX9 214 (109330211763570), Cond.constantLong RX9 216 (1751474548), Cond.constantLong RX9 218 (123623862723950), Cond.constantLong RX9 220 (1818324580), Cond.constantLong RX9 222 (7170414), Cond.constantLong RX9 224 (7168376), Cond.methodLink RX9 202 yX9_spells, Cond.instanceMethod yX9_spells, Cond.selects RX9 yX9_spells yX9_spells, Cond.code yX9_spells cX9_spells 7 (some .boolean)]
def wsX9_reads_r3 : List Cond := [Cond.constantLong RX9 198 (255), Cond.methodLink RX9 271 yX9_must, Cond.instanceMethod yX9_must, Cond.selects RX9 yX9_must yX9_must, Cond.code yX9_must cX9_must 2 none, Cond.methodLink RX9 274 yX9_either, Cond.instanceMethod yX9_either, Cond.selects RX9 yX9_either yX9_either, Cond.code yX9_either cX9_either 5 none, Cond.fieldLink RX9 99 "HoneyHouseModel" "piled" "I", Cond.fieldLink RX9 102 "HoneyHouseModel" "made" "I", Cond.fieldLink RX9 105 "HoneyHouseModel" "deep" "I", Cond.fieldLink RX9 96 "HoneyHouseModel" "pile" "[I", Cond.methodLink RX9 238 yX9_peek, Cond.instanceMethod yX9_peek, Cond.selects RX9 yX9_peek yX9_peek, Cond.code yX9_peek cX9_peek 1 (some .int), Cond.methodLink RX9 247 yX9_opens, Cond.instanceMethod yX9_opens, Cond.selects RX9 yX9_opens yX9_opens, Cond.code yX9_opens cX9_opens 2 none, Cond.methodLink RX9 250 yX9_test_, Cond.instanceMethod yX9_test_, Cond.selects RX9 yX9_test_ yX9_test_]
def wsX9_reads_r4 : List Cond := [Cond.code yX9_test_ cX9_test_ 5 none, Cond.methodLink RX9 241 yX9_number, Cond.instanceMethod yX9_number, Cond.selects RX9 yX9_number yX9_number, Cond.code yX9_number cX9_number 5 (some .int), Cond.methodLink RX9 235 yX9_isDigit, Cond.static yX9_isDigit, Cond.code yX9_isDigit cX9_isDigit 1 (some .boolean), Cond.methodLink RX9 244 yX9_add, Cond.instanceMethod yX9_add, Cond.selects RX9 yX9_add yX9_add, Cond.code yX9_add cX9_add 2 none, Cond.fieldLink RX9 68 "HoneyHouseModel" "code" "[I", Cond.methodLink RX9 253 yX9_nots, Cond.instanceMethod yX9_nots, Cond.selects RX9 yX9_nots yX9_nots, Cond.code yX9_nots cX9_nots 1 none, Cond.methodLink RX9 256 yX9_joins, Cond.instanceMethod yX9_joins, Cond.selects RX9 yX9_joins yX9_joins, Cond.code yX9_joins cX9_joins 2 none, Cond.methodLink RX9 259 yX9_brackets, Cond.instanceMethod yX9_brackets, Cond.selects RX9 yX9_brackets yX9_brackets]
def wsX9_reads_r5 : List Cond := [Cond.code yX9_brackets cX9_brackets 3 (some .int)]
def wsX9_reads : List Cond := .code yX9_reads cX9_reads 1 none :: ((wsX9_reads_r1 ++ (wsX9_reads_r2 ++ (wsX9_reads_r3 ++ (wsX9_reads_r4 ++ wsX9_reads_r5)))) ++ wsX90)
def wsX9_full_r1 : List Cond := [Cond.fieldLink RX9 53 "HoneyHouseModel" "rules" "I", Cond.fieldLink RX9 59 "HoneyHouseModel" "nameSize" "[I", Cond.fieldLink RX9 62 "HoneyHouseModel" "from" "[I", Cond.fieldLink RX9 108 "HoneyHouseModel" "keptName" "[I", Cond.fieldLink RX9 56 "HoneyHouseModel" "names" "[I", Cond.fieldLink RX9 111 "HoneyHouseModel" "keptCode" "[I", Cond.fieldLink RX9 68 "HoneyHouseModel" "code" "[I", Cond.fieldLink RX9 74 "HoneyHouseModel" "faultKind" "I", Cond.methodLink RX9 265 yX9_reads, Cond.instanceMethod yX9_reads, Cond.selects RX9 yX9_reads yX9_reads, Cond.initialized RX9, Cond.code yX9_reads cX9_reads 1 none, Cond.fieldLink RX9 87 "HoneyHouseModel" "at" "I", Cond.methodLink RX9 268 yX9_name, Cond.instanceMethod yX9_name, Cond.selects RX9 yX9_name yX9_name, Cond.code yX9_name cX9_name 3 none, Cond.fieldLink RX9 7 "HoneyHouseModel" "tape" "[I", Cond.methodLink RX9 191 yX9_here, Cond.instanceMethod yX9_here, Cond.selects RX9 yX9_here yX9_here, Cond.code yX9_here cX9_here 1 (some .int), Cond.fieldLink RX9 90 "HoneyHouseModel" "size" "I"]
def wsX9_full_r2 : List Cond := [Cond.methodLink RX9 226 yX9_isLetter, Cond.static yX9_isLetter, Cond.code yX9_isLetter cX9_isLetter 1 (some .boolean), Cond.methodLink RX9 195 yX9_blame, Cond.instanceMethod yX9_blame, Cond.selects RX9 yX9_blame yX9_blame, Cond.code yX9_blame cX9_blame 3 none, Cond.fieldLink RX9 77 "HoneyHouseModel" "faultPlace" "I", Cond.methodLink RX9 229 yX9_wordEnd, Cond.instanceMethod yX9_wordEnd, Cond.selects RX9 yX9_wordEnd yX9_wordEnd, Cond.code yX9_wordEnd cX9_wordEnd 2 (some .int), Cond.methodLink RX9 232 yX9_word, Cond.instanceMethod yX9_word, Cond.selects RX9 yX9_word yX9_word, Cond.code yX9_word cX9_word 2 (some .int), Cond.constantLong RX9 200 (1718775661), Cond.constantLong RX9 206 (28530), Cond.constantLong RX9 208 (6385252), Cond.constantLong RX9 210 (7237492), Cond.constantLong RX9 212 (512736126322), Cond.constantLong RX9 214 (109330211763570), Cond.constantLong RX9 216 (1751474548), Cond.constantLong RX9 218 (123623862723950)]
def wsX9_full_r3 : List Cond := [Cond.constantLong RX9 220 (1818324580), Cond.constantLong RX9 222 (7170414), Cond.constantLong RX9 224 (7168376), Cond.methodLink RX9 202 yX9_spells, Cond.instanceMethod yX9_spells, Cond.selects RX9 yX9_spells yX9_spells, Cond.code yX9_spells cX9_spells 7 (some .boolean), Cond.constantLong RX9 198 (255), Cond.methodLink RX9 271 yX9_must, Cond.instanceMethod yX9_must, Cond.selects RX9 yX9_must yX9_must, Cond.code yX9_must cX9_must 2 none, Cond.methodLink RX9 274 yX9_either, Cond.instanceMethod yX9_either, Cond.selects RX9 yX9_either yX9_either, Cond.code yX9_either cX9_either 5 none, Cond.fieldLink RX9 99 "HoneyHouseModel" "piled" "I", Cond.fieldLink RX9 102 "HoneyHouseModel" "made" "I", Cond.fieldLink RX9 105 "HoneyHouseModel" "deep" "I", Cond.fieldLink RX9 96 "HoneyHouseModel" "pile" "[I", Cond.methodLink RX9 238 yX9_peek, Cond.instanceMethod yX9_peek, Cond.selects RX9 yX9_peek yX9_peek, Cond.code yX9_peek cX9_peek 1 (some .int)]
def wsX9_full_r4 : List Cond := [Cond.methodLink RX9 247 yX9_opens, Cond.instanceMethod yX9_opens, Cond.selects RX9 yX9_opens yX9_opens, Cond.code yX9_opens cX9_opens 2 none, Cond.methodLink RX9 250 yX9_test_, Cond.instanceMethod yX9_test_, Cond.selects RX9 yX9_test_ yX9_test_, Cond.code yX9_test_ cX9_test_ 5 none, Cond.methodLink RX9 241 yX9_number, Cond.instanceMethod yX9_number, Cond.selects RX9 yX9_number yX9_number, Cond.code yX9_number cX9_number 5 (some .int), Cond.methodLink RX9 235 yX9_isDigit, Cond.static yX9_isDigit, Cond.code yX9_isDigit cX9_isDigit 1 (some .boolean), Cond.methodLink RX9 244 yX9_add, Cond.instanceMethod yX9_add, Cond.selects RX9 yX9_add yX9_add, Cond.code yX9_add cX9_add 2 none, Cond.methodLink RX9 253 yX9_nots, Cond.instanceMethod yX9_nots, Cond.selects RX9 yX9_nots yX9_nots, Cond.code yX9_nots cX9_nots 1 none, Cond.methodLink RX9 256 yX9_joins]
def wsX9_full_r5 : List Cond := [Cond.instanceMethod yX9_joins, Cond.selects RX9 yX9_joins yX9_joins, Cond.code yX9_joins cX9_joins 2 none, Cond.methodLink RX9 259 yX9_brackets, Cond.instanceMethod yX9_brackets, Cond.selects RX9 yX9_brackets yX9_brackets, Cond.code yX9_brackets cX9_brackets 3 (some .int)]
def wsX9_full : List Cond := .code yX9_full cX9_full 4 (some .int) :: ((wsX9_full_r1 ++ (wsX9_full_r2 ++ (wsX9_full_r3 ++ (wsX9_full_r4 ++ wsX9_full_r5)))) ++ wsX90)
def wsX9_rule_r1 : List Cond := [Cond.fieldLink RX9 13 "HoneyHouseModel" "taped" "I", Cond.fieldLink RX9 90 "HoneyHouseModel" "size" "I", Cond.fieldLink RX9 74 "HoneyHouseModel" "faultKind" "I", Cond.fieldLink RX9 77 "HoneyHouseModel" "faultPlace" "I", Cond.fieldLink RX9 53 "HoneyHouseModel" "rules" "I", Cond.fieldLink RX9 71 "HoneyHouseModel" "codeSize" "[I", Cond.fieldLink RX9 102 "HoneyHouseModel" "made" "I", Cond.fieldLink RX9 65 "HoneyHouseModel" "shuts" "[I", Cond.methodLink RX9 262 yX9_full, Cond.instanceMethod yX9_full, Cond.selects RX9 yX9_full yX9_full, Cond.initialized RX9, Cond.code yX9_full cX9_full 4 (some .int), Cond.fieldLink RX9 59 "HoneyHouseModel" "nameSize" "[I", Cond.fieldLink RX9 62 "HoneyHouseModel" "from" "[I", Cond.fieldLink RX9 108 "HoneyHouseModel" "keptName" "[I", Cond.fieldLink RX9 56 "HoneyHouseModel" "names" "[I", Cond.fieldLink RX9 111 "HoneyHouseModel" "keptCode" "[I", Cond.fieldLink RX9 68 "HoneyHouseModel" "code" "[I", Cond.methodLink RX9 265 yX9_reads, Cond.instanceMethod yX9_reads, Cond.selects RX9 yX9_reads yX9_reads, Cond.code yX9_reads cX9_reads 1 none, Cond.fieldLink RX9 87 "HoneyHouseModel" "at" "I"]
def wsX9_rule_r2 : List Cond := [Cond.methodLink RX9 268 yX9_name, Cond.instanceMethod yX9_name, Cond.selects RX9 yX9_name yX9_name, Cond.code yX9_name cX9_name 3 none, Cond.fieldLink RX9 7 "HoneyHouseModel" "tape" "[I", Cond.methodLink RX9 191 yX9_here, Cond.instanceMethod yX9_here, Cond.selects RX9 yX9_here yX9_here, Cond.code yX9_here cX9_here 1 (some .int), Cond.methodLink RX9 226 yX9_isLetter, Cond.static yX9_isLetter, Cond.code yX9_isLetter cX9_isLetter 1 (some .boolean), Cond.methodLink RX9 195 yX9_blame, Cond.instanceMethod yX9_blame, Cond.selects RX9 yX9_blame yX9_blame, Cond.code yX9_blame cX9_blame 3 none, Cond.methodLink RX9 229 yX9_wordEnd, Cond.instanceMethod yX9_wordEnd, Cond.selects RX9 yX9_wordEnd yX9_wordEnd, Cond.code yX9_wordEnd cX9_wordEnd 2 (some .int), Cond.methodLink RX9 232 yX9_word, Cond.instanceMethod yX9_word, Cond.selects RX9 yX9_word yX9_word, Cond.code yX9_word cX9_word 2 (some .int)]
def wsX9_rule_r3 : List Cond := [Cond.constantLong RX9 200 (1718775661), Cond.constantLong RX9 206 (28530), Cond.constantLong RX9 208 (6385252), Cond.constantLong RX9 210 (7237492), Cond.constantLong RX9 212 (512736126322), Cond.constantLong RX9 214 (109330211763570), Cond.constantLong RX9 216 (1751474548), Cond.constantLong RX9 218 (123623862723950), Cond.constantLong RX9 220 (1818324580), Cond.constantLong RX9 222 (7170414), Cond.constantLong RX9 224 (7168376), Cond.methodLink RX9 202 yX9_spells, Cond.instanceMethod yX9_spells, Cond.selects RX9 yX9_spells yX9_spells, Cond.code yX9_spells cX9_spells 7 (some .boolean), Cond.constantLong RX9 198 (255), Cond.methodLink RX9 271 yX9_must, Cond.instanceMethod yX9_must, Cond.selects RX9 yX9_must yX9_must, Cond.code yX9_must cX9_must 2 none, Cond.methodLink RX9 274 yX9_either, Cond.instanceMethod yX9_either, Cond.selects RX9 yX9_either yX9_either, Cond.code yX9_either cX9_either 5 none]
def wsX9_rule_r4 : List Cond := [Cond.fieldLink RX9 99 "HoneyHouseModel" "piled" "I", Cond.fieldLink RX9 105 "HoneyHouseModel" "deep" "I", Cond.fieldLink RX9 96 "HoneyHouseModel" "pile" "[I", Cond.methodLink RX9 238 yX9_peek, Cond.instanceMethod yX9_peek, Cond.selects RX9 yX9_peek yX9_peek, Cond.code yX9_peek cX9_peek 1 (some .int), Cond.methodLink RX9 247 yX9_opens, Cond.instanceMethod yX9_opens, Cond.selects RX9 yX9_opens yX9_opens, Cond.code yX9_opens cX9_opens 2 none, Cond.methodLink RX9 250 yX9_test_, Cond.instanceMethod yX9_test_, Cond.selects RX9 yX9_test_ yX9_test_, Cond.code yX9_test_ cX9_test_ 5 none, Cond.methodLink RX9 241 yX9_number, Cond.instanceMethod yX9_number, Cond.selects RX9 yX9_number yX9_number, Cond.code yX9_number cX9_number 5 (some .int), Cond.methodLink RX9 235 yX9_isDigit, Cond.static yX9_isDigit, Cond.code yX9_isDigit cX9_isDigit 1 (some .boolean), Cond.methodLink RX9 244 yX9_add, Cond.instanceMethod yX9_add]
def wsX9_rule_r5 : List Cond := [Cond.selects RX9 yX9_add yX9_add, Cond.code yX9_add cX9_add 2 none, Cond.methodLink RX9 253 yX9_nots, Cond.instanceMethod yX9_nots, Cond.selects RX9 yX9_nots yX9_nots, Cond.code yX9_nots cX9_nots 1 none, Cond.methodLink RX9 256 yX9_joins, Cond.instanceMethod yX9_joins, Cond.selects RX9 yX9_joins yX9_joins, Cond.code yX9_joins cX9_joins 2 none, Cond.methodLink RX9 259 yX9_brackets, Cond.instanceMethod yX9_brackets, Cond.selects RX9 yX9_brackets yX9_brackets, Cond.code yX9_brackets cX9_brackets 3 (some .int)]
def wsX9_rule : List Cond := .code yX9_rule cX9_rule 1 (some .int) :: ((wsX9_rule_r1 ++ (wsX9_rule_r2 ++ (wsX9_rule_r3 ++ (wsX9_rule_r4 ++ wsX9_rule_r5)))) ++ wsX90)
def wsX9_fault : List Cond := .code yX9_fault cX9_fault 2 (some .int) :: ([.fieldLink RX9 74 "HoneyHouseModel" "faultKind" "I", .fieldLink RX9 77 "HoneyHouseModel" "faultPlace" "I"] ++ wsX90)
def wsX9_shut : List Cond := .code yX9_shut cX9_shut 3 (some .boolean) :: ([.fieldLink RX9 53 "HoneyHouseModel" "rules" "I", .fieldLink RX9 65 "HoneyHouseModel" "shuts" "[I", .fieldLink RX9 62 "HoneyHouseModel" "from" "[I"] ++ wsX90)
def wsX9_tells : List Cond := .code yX9_tells cX9_tells 9 (some .int) :: ([.fieldLink RX9 41 "HoneyHouseModel" "heat" "[I", .methodLink RX9 169 yX9_all, .instanceMethod yX9_all, .selects RX9 yX9_all yX9_all, .initialized RX9, .code yX9_all cX9_all 4 (some .int), .fieldLink RX9 20 "HoneyHouseModel" "lots" "I", .fieldLink RX9 38 "HoneyHouseModel" "grams" "[I", .methodLink RX9 187 yX9_sum, .instanceMethod yX9_sum, .selects RX9 yX9_sum yX9_sum, .code yX9_sum cX9_sum 7 (some .long), .fieldLink RX9 23 "HoneyHouseModel" "lot" "[I", .fieldLink RX9 26 "HoneyHouseModel" "low" "[I", .fieldLink RX9 29 "HoneyHouseModel" "high" "[I"] ++ wsX90)
def wsX9_works : List Cond := .code yX9_works cX9_works 7 (some .int) :: ([.fieldLink RX9 71 "HoneyHouseModel" "codeSize" "[I", .fieldLink RX9 68 "HoneyHouseModel" "code" "[I", .fieldLink RX9 114 "HoneyHouseModel" "held" "[I", .methodLink RX9 277 yX9_tells, .instanceMethod yX9_tells, .selects RX9 yX9_tells yX9_tells, .initialized RX9, .code yX9_tells cX9_tells 9 (some .int), .fieldLink RX9 41 "HoneyHouseModel" "heat" "[I", .methodLink RX9 169 yX9_all, .instanceMethod yX9_all, .selects RX9 yX9_all yX9_all, .code yX9_all cX9_all 4 (some .int), .fieldLink RX9 20 "HoneyHouseModel" "lots" "I", .fieldLink RX9 38 "HoneyHouseModel" "grams" "[I", .methodLink RX9 187 yX9_sum, .instanceMethod yX9_sum, .selects RX9 yX9_sum yX9_sum, .code yX9_sum cX9_sum 7 (some .long), .fieldLink RX9 23 "HoneyHouseModel" "lot" "[I", .fieldLink RX9 26 "HoneyHouseModel" "low" "[I", .fieldLink RX9 29 "HoneyHouseModel" "high" "[I"] ++ wsX90)
def wsX9_says_r1 : List Cond := [Cond.fieldLink RX9 53 "HoneyHouseModel" "rules" "I", Cond.methodLink RX9 179 yX9_row, Cond.instanceMethod yX9_row, Cond.selects RX9 yX9_row yX9_row, Cond.initialized RX9, Cond.code yX9_row cX9_row 3 (some .int), Cond.fieldLink RX9 50 "HoneyHouseModel" "batches" "I", Cond.methodLink RX9 165 yX9_isTank, Cond.static yX9_isTank, Cond.code yX9_isTank cX9_isTank 1 (some .boolean), Cond.methodLink RX9 169 yX9_all, Cond.instanceMethod yX9_all, Cond.selects RX9 yX9_all yX9_all, Cond.code yX9_all cX9_all 4 (some .int), Cond.fieldLink RX9 20 "HoneyHouseModel" "lots" "I", Cond.fieldLink RX9 38 "HoneyHouseModel" "grams" "[I", Cond.methodLink RX9 281 yX9_works, Cond.instanceMethod yX9_works, Cond.selects RX9 yX9_works yX9_works, Cond.code yX9_works cX9_works 7 (some .int), Cond.fieldLink RX9 71 "HoneyHouseModel" "codeSize" "[I", Cond.fieldLink RX9 68 "HoneyHouseModel" "code" "[I", Cond.fieldLink RX9 114 "HoneyHouseModel" "held" "[I", Cond.methodLink RX9 277 yX9_tells]
def wsX9_says_r2 : List Cond := [Cond.instanceMethod yX9_tells, Cond.selects RX9 yX9_tells yX9_tells, Cond.code yX9_tells cX9_tells 9 (some .int), Cond.fieldLink RX9 41 "HoneyHouseModel" "heat" "[I", Cond.methodLink RX9 187 yX9_sum, Cond.instanceMethod yX9_sum, Cond.selects RX9 yX9_sum yX9_sum, Cond.code yX9_sum cX9_sum 7 (some .long), Cond.fieldLink RX9 23 "HoneyHouseModel" "lot" "[I", Cond.fieldLink RX9 26 "HoneyHouseModel" "low" "[I", Cond.fieldLink RX9 29 "HoneyHouseModel" "high" "[I"]
def wsX9_says : List Cond := .code yX9_says cX9_says 6 (some .int) :: ((wsX9_says_r1 ++ wsX9_says_r2) ++ wsX90)
def wsX9_isSame : List Cond := .code yX9_isSame cX9_isSame 5 (some .boolean) :: ([.fieldLink RX9 59 "HoneyHouseModel" "nameSize" "[I", .fieldLink RX9 56 "HoneyHouseModel" "names" "[I"] ++ wsX90)
def wsX9_isInForce : List Cond := .code yX9_isInForce cX9_isInForce 5 (some .boolean) :: ([.fieldLink RX9 62 "HoneyHouseModel" "from" "[I", .fieldLink RX9 65 "HoneyHouseModel" "shuts" "[I", .fieldLink RX9 53 "HoneyHouseModel" "rules" "I", .methodLink RX9 284 yX9_isSame, .instanceMethod yX9_isSame, .selects RX9 yX9_isSame yX9_isSame, .initialized RX9, .code yX9_isSame cX9_isSame 5 (some .boolean), .fieldLink RX9 59 "HoneyHouseModel" "nameSize" "[I", .fieldLink RX9 56 "HoneyHouseModel" "names" "[I"] ++ wsX90)
def wsX9_name__r1 : List Cond := [Cond.fieldLink RX9 53 "HoneyHouseModel" "rules" "I", Cond.methodLink RX9 179 yX9_row, Cond.instanceMethod yX9_row, Cond.selects RX9 yX9_row yX9_row, Cond.initialized RX9, Cond.code yX9_row cX9_row 3 (some .int), Cond.fieldLink RX9 50 "HoneyHouseModel" "batches" "I", Cond.methodLink RX9 165 yX9_isTank, Cond.static yX9_isTank, Cond.code yX9_isTank cX9_isTank 1 (some .boolean), Cond.methodLink RX9 169 yX9_all, Cond.instanceMethod yX9_all, Cond.selects RX9 yX9_all yX9_all, Cond.code yX9_all cX9_all 4 (some .int), Cond.fieldLink RX9 20 "HoneyHouseModel" "lots" "I", Cond.fieldLink RX9 38 "HoneyHouseModel" "grams" "[I", Cond.methodLink RX9 288 yX9_isInForce, Cond.instanceMethod yX9_isInForce, Cond.selects RX9 yX9_isInForce yX9_isInForce, Cond.code yX9_isInForce cX9_isInForce 5 (some .boolean), Cond.fieldLink RX9 62 "HoneyHouseModel" "from" "[I", Cond.fieldLink RX9 65 "HoneyHouseModel" "shuts" "[I", Cond.methodLink RX9 284 yX9_isSame, Cond.instanceMethod yX9_isSame]
def wsX9_name__r2 : List Cond := [Cond.selects RX9 yX9_isSame yX9_isSame, Cond.code yX9_isSame cX9_isSame 5 (some .boolean), Cond.fieldLink RX9 59 "HoneyHouseModel" "nameSize" "[I", Cond.fieldLink RX9 56 "HoneyHouseModel" "names" "[I", Cond.methodLink RX9 281 yX9_works, Cond.instanceMethod yX9_works, Cond.selects RX9 yX9_works yX9_works, Cond.code yX9_works cX9_works 7 (some .int), Cond.fieldLink RX9 71 "HoneyHouseModel" "codeSize" "[I", Cond.fieldLink RX9 68 "HoneyHouseModel" "code" "[I", Cond.fieldLink RX9 114 "HoneyHouseModel" "held" "[I", Cond.methodLink RX9 277 yX9_tells, Cond.instanceMethod yX9_tells, Cond.selects RX9 yX9_tells yX9_tells, Cond.code yX9_tells cX9_tells 9 (some .int), Cond.fieldLink RX9 41 "HoneyHouseModel" "heat" "[I", Cond.methodLink RX9 187 yX9_sum, Cond.instanceMethod yX9_sum, Cond.selects RX9 yX9_sum yX9_sum, Cond.code yX9_sum cX9_sum 7 (some .long), Cond.fieldLink RX9 23 "HoneyHouseModel" "lot" "[I", Cond.fieldLink RX9 26 "HoneyHouseModel" "low" "[I", Cond.fieldLink RX9 29 "HoneyHouseModel" "high" "[I"]
def wsX9_name_ : List Cond := .code yX9_name_ cX9_name_ 6 (some .int) :: ((wsX9_name__r1 ++ wsX9_name__r2) ++ wsX90)
def wsX9_step : List Cond := .code yX9_step cX9_step 4 (some .boolean) :: ([.constant RX9 291 (100000), .fieldLink RX9 35 "HoneyHouseModel" "steps" "[I", .methodLink RX9 151 yX9_is, .static yX9_is, .initialized RX9, .code yX9_is cX9_is 3 (some .boolean)] ++ wsX90)
def wsX9_paid : List Cond := .code yX9_paid cX9_paid 5 (some .long) :: ([.constantLong RX9 173 (-1), .fieldLink RX9 20 "HoneyHouseModel" "lots" "I", .fieldLink RX9 23 "HoneyHouseModel" "lot" "[I", .methodLink RX9 151 yX9_is, .static yX9_is, .initialized RX9, .code yX9_is cX9_is 3 (some .boolean)] ++ wsX90)
def wsX9_blend_r1 : List Cond := [Cond.fieldLink RX9 124 "HoneyHouseModel" "which" "[I", Cond.fieldLink RX9 127 "HoneyHouseModel" "wet" "[I", Cond.constantLong RX9 185 (10), Cond.fieldLink RX9 130 "HoneyHouseModel" "dark" "[I", Cond.fieldLink RX9 133 "HoneyHouseModel" "cost" "[I", Cond.fieldLink RX9 47 "HoneyHouseModel" "price" "[I", Cond.fieldLink RX9 136 "HoneyHouseModel" "there" "[I", Cond.constantLong RX9 173 (-1), Cond.constant RX9 292 (68921), Cond.fieldLink RX9 117 "HoneyHouseModel" "blended" "Z", Cond.fieldLink RX9 121 "HoneyHouseModel" "parts" "[I", Cond.methodLink RX9 151 yX9_is, Cond.static yX9_is, Cond.initialized RX9, Cond.code yX9_is cX9_is 3 (some .boolean), Cond.methodLink RX9 169 yX9_all, Cond.instanceMethod yX9_all, Cond.selects RX9 yX9_all yX9_all, Cond.code yX9_all cX9_all 4 (some .int), Cond.fieldLink RX9 20 "HoneyHouseModel" "lots" "I", Cond.fieldLink RX9 38 "HoneyHouseModel" "grams" "[I", Cond.methodLink RX9 187 yX9_sum, Cond.instanceMethod yX9_sum, Cond.selects RX9 yX9_sum yX9_sum]
def wsX9_blend_r2 : List Cond := [Cond.code yX9_sum cX9_sum 7 (some .long), Cond.fieldLink RX9 23 "HoneyHouseModel" "lot" "[I", Cond.fieldLink RX9 26 "HoneyHouseModel" "low" "[I", Cond.fieldLink RX9 29 "HoneyHouseModel" "high" "[I"]
def wsX9_blend : List Cond := .code yX9_blend cX9_blend 20 (some .int) :: ((wsX9_blend_r1 ++ wsX9_blend_r2) ++ wsX90)
def wsX9_parts : List Cond := .code yX9_parts cX9_parts 2 (some .int) :: ([.fieldLink RX9 117 "HoneyHouseModel" "blended" "Z", .fieldLink RX9 121 "HoneyHouseModel" "parts" "[I", .methodLink RX9 165 yX9_isTank, .static yX9_isTank, .initialized RX9, .code yX9_isTank cX9_isTank 1 (some .boolean)] ++ wsX90)
def wsX9_trace : List Cond := .code yX9_trace cX9_trace 3 (some .int) :: ([.fieldLink RX9 142 "HoneyHouseModel" "founds" "I", .fieldLink RX9 50 "HoneyHouseModel" "batches" "I", .fieldLink RX9 38 "HoneyHouseModel" "grams" "[I", .fieldLink RX9 139 "HoneyHouseModel" "found" "[I", .methodLink RX9 160 yX9_isLot, .instanceMethod yX9_isLot, .selects RX9 yX9_isLot yX9_isLot, .initialized RX9, .code yX9_isLot cX9_isLot 2 (some .boolean), .fieldLink RX9 20 "HoneyHouseModel" "lots" "I"] ++ wsX90)
def wsX9_found : List Cond := .code yX9_found cX9_found 2 (some .int) :: ([.fieldLink RX9 142 "HoneyHouseModel" "founds" "I", .fieldLink RX9 139 "HoneyHouseModel" "found" "[I"] ++ wsX90)
def wsX9_whose : List Cond := .code yX9_whose cX9_whose 13 (some .long) :: ([.constantLong RX9 173 (-1), .fieldLink RX9 20 "HoneyHouseModel" "lots" "I", .fieldLink RX9 23 "HoneyHouseModel" "lot" "[I", .fieldLink RX9 50 "HoneyHouseModel" "batches" "I", .fieldLink RX9 38 "HoneyHouseModel" "grams" "[I", .methodLink RX9 151 yX9_is, .static yX9_is, .initialized RX9, .code yX9_is cX9_is 3 (some .boolean)] ++ wsX90)
def wsX9_count : List Cond := .code yX9_count cX9_count 2 (some .int) :: ([.fieldLink RX9 20 "HoneyHouseModel" "lots" "I", .fieldLink RX9 50 "HoneyHouseModel" "batches" "I", .fieldLink RX9 53 "HoneyHouseModel" "rules" "I", .fieldLink RX9 17 "HoneyHouseModel" "today" "I"] ++ wsX90)
def wsJ9_max_7cf53 : List Cond := .code yJ9_max_7cf53 cJ9_max_7cf53 2 (some .int) :: ([])
def wsJ9_min_7cf53 : List Cond := .code yJ9_min_7cf53 cJ9_min_7cf53 2 (some .int) :: ([])
abbrev vwCl : List vw_C := [(RX0, TX0, 14), (RX1, TX1, 2), (RX2, TX2, 10), (RX3, TX3, 5), (RX4, TX4, 8), (RX5, TX5, 2), (RX6, TX6, 5), (RX7, TX7, 5), (RX8, TX8, 15), (RX9, TX9, 44)]
/-! ===== END printed: names ===== -/
end
section
/-! small rows of this work: a name for what lies on top of the stack, indices in range, plain facts of ints -/
section BASE
variable {p : Program} {l : Launch} {e : Env} {R : Room} {s : State} {m : MethodId} {args : Array Value} {below : List Frame} {meth : Method} {c : Code} {H : Heap} {locs : List Loc} {cells slots : Nat} {Q : State → Prop} {pc : Nat} {ls : Array Slot} {rest : List Value}
theorem tp_i {x y : Int32} (h : x = y) (k : W p l e R s m args below meth c H locs cells slots Q (F0 m pc ls (.int y :: rest))) : W p l e R s m args below meth c H locs cells slots Q (F0 m pc ls (.int x :: rest)) := by rw [h]; exact k
theorem tp_l {x y : Int64} (h : x = y) (k : W p l e R s m args below meth c H locs cells slots Q (F0 m pc ls (.long y :: rest))) : W p l e R s m args below meth c H locs cells slots Q (F0 m pc ls (.long x :: rest)) := by rw [h]; exact k
theorem tp_v {x y : Value} (h : x = y) (k : W p l e R s m args below meth c H locs cells slots Q (F0 m pc ls (y :: rest))) : W p l e R s m args below meth c H locs cells slots Q (F0 m pc ls (x :: rest)) := by rw [h]; exact k
end BASE
theorem i_lt (a b : Int32) : a < b ↔ a.toInt < b.toInt := Int32.lt_iff_toInt_lt
theorem i_le (a b : Int32) : a ≤ b ↔ a.toInt ≤ b.toInt := Int32.le_iff_toInt_le
theorem i_nlt {a b : Int32} (h : ¬ a < b) : b ≤ a := by rw [i_lt] at h; rw [i_le]; omega
theorem i_in {n M : Int32} {N : Nat} (a : ¬ n < 0) (b : ¬ M < n) (h : M.toInt + 1 = (N : Int)) : vp_in n N := by
  rw [i_lt] at a b
  have h0 : (0 : Int32).toInt = 0 := by decide
  rw [h0] at a
  exact vp_in_iff.mpr ⟨by omega, by omega⟩
theorem i_10 {g : Int32} (a : ¬ g < 1) (b : ¬ 0 < g) : False := by
  rw [i_lt] at a b
  have h0 : (0 : Int32).toInt = 0 := by decide
  have h1 : (1 : Int32).toInt = 1 := by decide
  rw [h1] at a; rw [h0] at b
  omega
theorem i_le_of {a b k : Int32} (h : a ≤ b) (hk : k.toInt + 1 = a.toInt) : k < b := by rw [i_le] at h; rw [i_lt]; omega
theorem i_nle_of {a b k : Int32} (h : ¬ a ≤ b) (hk : k.toInt + 1 = a.toInt) : ¬ k < b := by rw [i_le] at h; rw [i_lt]; omega
end
section
/-- a loop that changes no cell: at its head with i rounds behind, N at most -/
theorem lp_W {p : Program} {l : Launch} {e : Env} {R : Room} {s : State} {m : MethodId} {args : Array Value} {below : List Frame} {meth : Method} {c : Code} {H : Heap} {locs : List Loc} {cells slots : Nat} {Q : State → Prop} {pc : Nat} (nL N : Nat) (lv : Nat → List (Nat × Value))
    (hs : ∀ i : Nat, i ≤ N → (i < N → ∀ ls : Array Slot, lv_has ls nL (lv (i + 1)) → W p l e R s m args below meth c H locs cells slots Q (F0 m pc ls [])) → ∀ ls : Array Slot, lv_has ls nL (lv i) → W p l e R s m args below meth c H locs cells slots Q (F0 m pc ls [])) :
    ∀ i : Nat, i ≤ N → ∀ ls : Array Slot, lv_has ls nL (lv i) → W p l e R s m args below meth c H locs cells slots Q (F0 m pc ls []) := by
  have key : ∀ (n i : Nat), i ≤ N → N + 1 ≤ i + n → ∀ ls : Array Slot, lv_has ls nL (lv i) → W p l e R s m args below meth c H locs cells slots Q (F0 m pc ls []) := by
    intro n
    induction n with
    | zero => intro i h1 h2; exact absurd h2 (by omega)
    | succ n ih => intro i h1 h2; exact hs i h1 (fun h ls hl => ih (i + 1) (by omega) (by omega) ls hl)
  intro i hi
  exact key (N + 1) i hi (by omega)
theorem i_lt_of {i N : Nat} {M : Int32} (hi : i ≤ N) (hN : N < 2147483648) (hM : M = nI N) (h : ¬ M ≤ nI i) : i < N := by
  rcases Nat.lt_or_ge i N with q | q
  · exact q
  · exact absurd (by rw [hM]; exact nI_le q (by omega)) h
theorem i_inL {n M : Int32} {N : Nat} (a : ¬ n < 0) (b : ¬ M < n) (h : M.toInt < (N : Int)) : vp_in n N := by
  rw [i_lt] at a b
  have h0 : (0 : Int32).toInt = 0 := by decide
  rw [h0] at a
  exact vp_in_iff.mpr ⟨by omega, by omega⟩
set_option maxRecDepth 100000 in
theorem bits_n : ∀ n : Nat, n < 1024 → 1 ≤ n → ¬ ((nI n >>> ((0 : Int32) &&& 31) &&& 1) = 0 ∧ (nI n >>> ((1 : Int32) &&& 31) &&& 1) = 0 ∧ (nI n >>> ((2 : Int32) &&& 31) &&& 1) = 0 ∧ (nI n >>> ((3 : Int32) &&& 31) &&& 1) = 0 ∧ (nI n >>> ((4 : Int32) &&& 31) &&& 1) = 0 ∧ (nI n >>> ((5 : Int32) &&& 31) &&& 1) = 0 ∧ (nI n >>> ((6 : Int32) &&& 31) &&& 1) = 0 ∧ (nI n >>> ((7 : Int32) &&& 31) &&& 1) = 0 ∧ (nI n >>> ((8 : Int32) &&& 31) &&& 1) = 0 ∧ (nI n >>> ((9 : Int32) &&& 31) &&& 1) = 0) := by decide +kernel
theorem bits_lo {b : Int32} (h1 : ¬ b < 1) (h2 : ¬ 1023 < b) : ∃ n : Nat, n < 1024 ∧ 1 ≤ n ∧ b = nI n := by
  rw [i_lt] at h1 h2
  have e1 : (1 : Int32).toInt = 1 := by decide
  have e2 : (1023 : Int32).toInt = 1023 := by decide
  rw [e1] at h1; rw [e2] at h2
  refine ⟨b.toInt.toNat, by omega, by omega, ?_⟩
  apply Int32.toInt_inj.mp
  rw [nI_toInt (by omega)]
  omega
end
section
theorem dX8_isIn_0 : decode cX8_isIn 0 = .ok (.iload_n 0, 1) := by decide +kernel
theorem dX8_isIn_1 : decode cX8_isIn 1 = .ok (.iload_n 1, 1) := by decide +kernel
theorem dX8_isIn_2 : decode cX8_isIn 2 = .ok (.if_icmp .lt 12, 3) := by decide +kernel
theorem dX8_isIn_5 : decode cX8_isIn 5 = .ok (.iload_n 0, 1) := by decide +kernel
theorem dX8_isIn_6 : decode cX8_isIn 6 = .ok (.iload_n 2, 1) := by decide +kernel
theorem dX8_isIn_7 : decode cX8_isIn 7 = .ok (.if_icmp .gt 7, 3) := by decide +kernel
theorem dX8_isIn_10 : decode cX8_isIn 10 = .ok (.iconst 1, 1) := by decide +kernel
theorem dX8_isIn_11 : decode cX8_isIn 11 = .ok (.goto 4, 3) := by decide +kernel
theorem dX8_isIn_14 : decode cX8_isIn 14 = .ok (.iconst 0, 1) := by decide +kernel
theorem dX8_isIn_15 : decode cX8_isIn 15 = .ok (.ireturn, 1) := by decide +kernel
theorem dX9_is_0 : decode cX9_is 0 = .ok (.iload_n 0, 1) := by decide +kernel
theorem dX9_is_1 : decode cX9_is 1 = .ok (.iload_n 1, 1) := by decide +kernel
theorem dX9_is_2 : decode cX9_is 2 = .ok (.if_icmp .lt 12, 3) := by decide +kernel
theorem dX9_is_5 : decode cX9_is 5 = .ok (.iload_n 0, 1) := by decide +kernel
theorem dX9_is_6 : decode cX9_is 6 = .ok (.iload_n 2, 1) := by decide +kernel
theorem dX9_is_7 : decode cX9_is 7 = .ok (.if_icmp .gt 7, 3) := by decide +kernel
theorem dX9_is_10 : decode cX9_is 10 = .ok (.iconst 1, 1) := by decide +kernel
theorem dX9_is_11 : decode cX9_is 11 = .ok (.goto 4, 3) := by decide +kernel
theorem dX9_is_14 : decode cX9_is 14 = .ok (.iconst 0, 1) := by decide +kernel
theorem dX9_is_15 : decode cX9_is 15 = .ok (.ireturn, 1) := by decide +kernel
theorem dX9_isTank_0 : decode cX9_isTank 0 = .ok (.iload_n 0, 1) := by decide +kernel
theorem dX9_isTank_1 : decode cX9_isTank 1 = .ok (.ifCond .lt 13, 3) := by decide +kernel
theorem dX9_isTank_4 : decode cX9_isTank 4 = .ok (.iload_n 0, 1) := by decide +kernel
theorem dX9_isTank_5 : decode cX9_isTank 5 = .ok (.bipush 10, 2) := by decide +kernel
theorem dX9_isTank_7 : decode cX9_isTank 7 = .ok (.if_icmp .ge 7, 3) := by decide +kernel
theorem dX9_isTank_10 : decode cX9_isTank 10 = .ok (.iconst 1, 1) := by decide +kernel
theorem dX9_isTank_11 : decode cX9_isTank 11 = .ok (.goto 4, 3) := by decide +kernel
theorem dX9_isTank_14 : decode cX9_isTank 14 = .ok (.iconst 0, 1) := by decide +kernel
theorem dX9_isTank_15 : decode cX9_isTank 15 = .ok (.ireturn, 1) := by decide +kernel
theorem dX8_lotAt_0 : decode cX8_lotAt 0 = .ok (.iload_n 1, 1) := by decide +kernel
theorem dX8_lotAt_1 : decode cX8_lotAt 1 = .ok (.iconst 0, 1) := by decide +kernel
theorem dX8_lotAt_2 : decode cX8_lotAt 2 = .ok (.aload_n 0, 1) := by decide +kernel
theorem dX8_lotAt_3 : decode cX8_lotAt 3 = .ok (.getfield 11, 3) := by decide +kernel
theorem dX8_lotAt_6 : decode cX8_lotAt 6 = .ok (.arraylength, 1) := by decide +kernel
theorem dX8_lotAt_7 : decode cX8_lotAt 7 = .ok (.iconst 1, 1) := by decide +kernel
theorem dX8_lotAt_8 : decode cX8_lotAt 8 = .ok (.isub, 1) := by decide +kernel
theorem dX8_lotAt_9 : decode cX8_lotAt 9 = .ok (.invokestatic 85, 3) := by decide +kernel
theorem dX8_lotAt_12 : decode cX8_lotAt 12 = .ok (.ifCond .eq 12, 3) := by decide +kernel
theorem dX8_lotAt_15 : decode cX8_lotAt 15 = .ok (.aload_n 0, 1) := by decide +kernel
theorem dX8_lotAt_16 : decode cX8_lotAt 16 = .ok (.getfield 11, 3) := by decide +kernel
theorem dX8_lotAt_19 : decode cX8_lotAt 19 = .ok (.iload_n 1, 1) := by decide +kernel
theorem dX8_lotAt_20 : decode cX8_lotAt 20 = .ok (.aaload, 1) := by decide +kernel
theorem dX8_lotAt_21 : decode cX8_lotAt 21 = .ok (.goto 4, 3) := by decide +kernel
theorem dX8_lotAt_24 : decode cX8_lotAt 24 = .ok (.aconst_null, 1) := by decide +kernel
theorem dX8_lotAt_25 : decode cX8_lotAt 25 = .ok (.areturn, 1) := by decide +kernel
theorem dX8_tankAt_0 : decode cX8_tankAt 0 = .ok (.iload_n 1, 1) := by decide +kernel
theorem dX8_tankAt_1 : decode cX8_tankAt 1 = .ok (.iconst 0, 1) := by decide +kernel
theorem dX8_tankAt_2 : decode cX8_tankAt 2 = .ok (.aload_n 0, 1) := by decide +kernel
theorem dX8_tankAt_3 : decode cX8_tankAt 3 = .ok (.getfield 17, 3) := by decide +kernel
theorem dX8_tankAt_6 : decode cX8_tankAt 6 = .ok (.arraylength, 1) := by decide +kernel
theorem dX8_tankAt_7 : decode cX8_tankAt 7 = .ok (.iconst 1, 1) := by decide +kernel
theorem dX8_tankAt_8 : decode cX8_tankAt 8 = .ok (.isub, 1) := by decide +kernel
theorem dX8_tankAt_9 : decode cX8_tankAt 9 = .ok (.invokestatic 85, 3) := by decide +kernel
theorem dX8_tankAt_12 : decode cX8_tankAt 12 = .ok (.ifCond .eq 12, 3) := by decide +kernel
theorem dX8_tankAt_15 : decode cX8_tankAt 15 = .ok (.aload_n 0, 1) := by decide +kernel
theorem dX8_tankAt_16 : decode cX8_tankAt 16 = .ok (.getfield 17, 3) := by decide +kernel
theorem dX8_tankAt_19 : decode cX8_tankAt 19 = .ok (.iload_n 1, 1) := by decide +kernel
theorem dX8_tankAt_20 : decode cX8_tankAt 20 = .ok (.aaload, 1) := by decide +kernel
theorem dX8_tankAt_21 : decode cX8_tankAt 21 = .ok (.goto 4, 3) := by decide +kernel
theorem dX8_tankAt_24 : decode cX8_tankAt 24 = .ok (.aconst_null, 1) := by decide +kernel
theorem dX8_tankAt_25 : decode cX8_tankAt 25 = .ok (.areturn, 1) := by decide +kernel
theorem dX8_ruleAt_0 : decode cX8_ruleAt 0 = .ok (.iload_n 1, 1) := by decide +kernel
theorem dX8_ruleAt_1 : decode cX8_ruleAt 1 = .ok (.iconst 0, 1) := by decide +kernel
theorem dX8_ruleAt_2 : decode cX8_ruleAt 2 = .ok (.aload_n 0, 1) := by decide +kernel
theorem dX8_ruleAt_3 : decode cX8_ruleAt 3 = .ok (.getfield 26, 3) := by decide +kernel
theorem dX8_ruleAt_6 : decode cX8_ruleAt 6 = .ok (.arraylength, 1) := by decide +kernel
theorem dX8_ruleAt_7 : decode cX8_ruleAt 7 = .ok (.iconst 1, 1) := by decide +kernel
theorem dX8_ruleAt_8 : decode cX8_ruleAt 8 = .ok (.isub, 1) := by decide +kernel
theorem dX8_ruleAt_9 : decode cX8_ruleAt 9 = .ok (.invokestatic 85, 3) := by decide +kernel
theorem dX8_ruleAt_12 : decode cX8_ruleAt 12 = .ok (.ifCond .eq 12, 3) := by decide +kernel
theorem dX8_ruleAt_15 : decode cX8_ruleAt 15 = .ok (.aload_n 0, 1) := by decide +kernel
theorem dX8_ruleAt_16 : decode cX8_ruleAt 16 = .ok (.getfield 26, 3) := by decide +kernel
theorem dX8_ruleAt_19 : decode cX8_ruleAt 19 = .ok (.iload_n 1, 1) := by decide +kernel
theorem dX8_ruleAt_20 : decode cX8_ruleAt 20 = .ok (.aaload, 1) := by decide +kernel
theorem dX8_ruleAt_21 : decode cX8_ruleAt 21 = .ok (.goto 4, 3) := by decide +kernel
theorem dX8_ruleAt_24 : decode cX8_ruleAt 24 = .ok (.aconst_null, 1) := by decide +kernel
theorem dX8_ruleAt_25 : decode cX8_ruleAt 25 = .ok (.areturn, 1) := by decide +kernel
set_option maxRecDepth 20000 in
theorem ggX8_lotAt_X8_isIn : GoodIn wsX8_lotAt wsX8_isIn := goodIn_r _ [5] (by decide +kernel) (by decide +kernel)
set_option maxRecDepth 20000 in
theorem gX8_lotAt_X8_isIn : GoodIn wsX8_lotAt (va_wsS RX8 85 yX8_isIn wsX8_isIn) := goodIn_app (goodIn_of _ (by decide +kernel)) ggX8_lotAt_X8_isIn
set_option maxRecDepth 20000 in
theorem ggX8_tankAt_X8_isIn : GoodIn wsX8_tankAt wsX8_isIn := goodIn_r _ [5] (by decide +kernel) (by decide +kernel)
set_option maxRecDepth 20000 in
theorem gX8_tankAt_X8_isIn : GoodIn wsX8_tankAt (va_wsS RX8 85 yX8_isIn wsX8_isIn) := goodIn_app (goodIn_of _ (by decide +kernel)) ggX8_tankAt_X8_isIn
set_option maxRecDepth 20000 in
theorem ggX8_ruleAt_X8_isIn : GoodIn wsX8_ruleAt wsX8_isIn := goodIn_r _ [5] (by decide +kernel) (by decide +kernel)
set_option maxRecDepth 20000 in
theorem gX8_ruleAt_X8_isIn : GoodIn wsX8_ruleAt (va_wsS RX8 85 yX8_isIn wsX8_isIn) := goodIn_app (goodIn_of _ (by decide +kernel)) ggX8_ruleAt_X8_isIn
theorem fb_rng0 (x : Int32) : -2147483648 ≤ x.toInt ∧ x.toInt < 2147483648 := ⟨Int32.le_toInt x, Int32.toInt_lt x⟩
set_option maxHeartbeats 4000000 in
set_option maxRecDepth 100000 in
/-- isIn: 1 where least ≤ n ≤ most -/
theorem s_X8_isIn (l : Launch) (n lo hi : Int32) : Met l yX8_isIn wsX8_isIn ({ frames := 0, cells := 0, slots := 0, locals := 0 }) (va_Pc [.int n, .int lo, .int hi] (fun _ => True)) (vp_Si (fun r => (r = 0 ∧ (n < lo ∨ hi < n)) ∨ (r = 1 ∧ ¬ n < lo ∧ ¬ hi < n))) 0 0 (fun _ => False) := by
  refine Met.ofW (cc := cX8_isIn) (maxL := 3) (ret := (some .boolean)) (by decide) rfl ?_
  intro p e s m args below meth c s₁ B hml hv
  obtain ⟨rfl, -⟩ := hv
  have hx := B.exec
  have hb := B.bytes
  have hr := B.returns
  have hts := atoms_spec (ws := wsX8_isIn) B.pre
  have hown : s.vm.findClass RX8 = some m.cls := findClass_of_methodNamed B.named
  have hlocks := B.notSynchronized
  have hl := lv_entry ([.int n, .int lo, .int hi]) (n := 3) (Nat.le_of_ble_eq_true rfl)
  rw [lg_entry_eq]
  generalize (lg_sl ([.int n, .int lo, .int hi]) ++ List.replicate (3 - (lg_sl ([.int n, .int lo, .int hi])).length) Slot.unset).toArray = ls at hl ⊢
  have hl : lv_has ls 3 [(0, .int n), (1, .int lo), (2, .int hi)] := hl
  refine lv_iload_n hx hb dX8_isIn_0 rfl (lv_at hl 0 rfl) ?_
  refine lv_iload_n hx hb dX8_isIn_1 rfl (lv_at hl 1 rfl) ?_
  refine lv_icmp_lt (tgt := 14) hx hb dX8_isIn_2 (by decide) (fun c_1 => ?_) (fun c_1 => ?_)
  · refine lv_iconst (v := 0) hx hb dX8_isIn_14 (by decide) ?_
    exact W.zret (v := 0) hx hb hr rfl (fun t ht hW => ⟨0, rfl, Or.inl ⟨rfl, Or.inl c_1⟩, ht⟩) (fun _ h9 => by cases h9) dX8_isIn_15
  refine lv_iload_n hx hb dX8_isIn_5 rfl (lv_at hl 0 rfl) ?_
  refine lv_iload_n hx hb dX8_isIn_6 rfl (lv_at hl 2 rfl) ?_
  refine lv_icmp_gt (tgt := 14) hx hb dX8_isIn_7 (by decide) (fun c_2 => ?_) (fun c_2 => ?_)
  · refine lv_iconst (v := 0) hx hb dX8_isIn_14 (by decide) ?_
    exact W.zret (v := 0) hx hb hr rfl (fun t ht hW => ⟨0, rfl, Or.inl ⟨rfl, Or.inr c_2⟩, ht⟩) (fun _ h9 => by cases h9) dX8_isIn_15
  refine lv_iconst (v := 1) hx hb dX8_isIn_10 (by decide) ?_
  refine lv_goto (tgt := 15) hx hb dX8_isIn_11 (by decide) ?_
  exact W.zret (v := 1) hx hb hr rfl (fun t ht hW => ⟨1, rfl, Or.inr ⟨rfl, c_1, c_2⟩, ht⟩) (fun _ h9 => by cases h9) dX8_isIn_15
set_option maxHeartbeats 4000000 in
set_option maxRecDepth 100000 in
/-- is: the same of the reference -/
theorem s_X9_is (l : Launch) (n lo hi : Int32) : Met l yX9_is wsX9_is ({ frames := 0, cells := 0, slots := 0, locals := 0 }) (va_Pc [.int n, .int lo, .int hi] (fun _ => True)) (vp_Si (fun r => (r = 0 ∧ (n < lo ∨ hi < n)) ∨ (r = 1 ∧ ¬ n < lo ∧ ¬ hi < n))) 0 0 (fun _ => False) := by
  refine Met.ofW (cc := cX9_is) (maxL := 3) (ret := (some .boolean)) (by decide) rfl ?_
  intro p e s m args below meth c s₁ B hml hv
  obtain ⟨rfl, -⟩ := hv
  have hx := B.exec
  have hb := B.bytes
  have hr := B.returns
  have hts := atoms_spec (ws := wsX9_is) B.pre
  have hown : s.vm.findClass RX9 = some m.cls := findClass_of_methodNamed B.named
  have hlocks := B.notSynchronized
  have hl := lv_entry ([.int n, .int lo, .int hi]) (n := 3) (Nat.le_of_ble_eq_true rfl)
  rw [lg_entry_eq]
  generalize (lg_sl ([.int n, .int lo, .int hi]) ++ List.replicate (3 - (lg_sl ([.int n, .int lo, .int hi])).length) Slot.unset).toArray = ls at hl ⊢
  have hl : lv_has ls 3 [(0, .int n), (1, .int lo), (2, .int hi)] := hl
  refine lv_iload_n hx hb dX9_is_0 rfl (lv_at hl 0 rfl) ?_
  refine lv_iload_n hx hb dX9_is_1 rfl (lv_at hl 1 rfl) ?_
  refine lv_icmp_lt (tgt := 14) hx hb dX9_is_2 (by decide) (fun c_1 => ?_) (fun c_1 => ?_)
  · refine lv_iconst (v := 0) hx hb dX9_is_14 (by decide) ?_
    exact W.zret (v := 0) hx hb hr rfl (fun t ht hW => ⟨0, rfl, Or.inl ⟨rfl, Or.inl c_1⟩, ht⟩) (fun _ h9 => by cases h9) dX9_is_15
  refine lv_iload_n hx hb dX9_is_5 rfl (lv_at hl 0 rfl) ?_
  refine lv_iload_n hx hb dX9_is_6 rfl (lv_at hl 2 rfl) ?_
  refine lv_icmp_gt (tgt := 14) hx hb dX9_is_7 (by decide) (fun c_2 => ?_) (fun c_2 => ?_)
  · refine lv_iconst (v := 0) hx hb dX9_is_14 (by decide) ?_
    exact W.zret (v := 0) hx hb hr rfl (fun t ht hW => ⟨0, rfl, Or.inl ⟨rfl, Or.inr c_2⟩, ht⟩) (fun _ h9 => by cases h9) dX9_is_15
  refine lv_iconst (v := 1) hx hb dX9_is_10 (by decide) ?_
  refine lv_goto (tgt := 15) hx hb dX9_is_11 (by decide) ?_
  exact W.zret (v := 1) hx hb hr rfl (fun t ht hW => ⟨1, rfl, Or.inr ⟨rfl, c_1, c_2⟩, ht⟩) (fun _ h9 => by cases h9) dX9_is_15
set_option maxHeartbeats 4000000 in
set_option maxRecDepth 100000 in
theorem s_X9_isTank (l : Launch) (n : Int32) : Met l yX9_isTank wsX9_isTank ({ frames := 0, cells := 0, slots := 0, locals := 0 }) (va_Pc [.int n] (fun _ => True)) (vp_Si (fun r => (r = 0 ∧ (n < 0 ∨ 9 < n)) ∨ (r = 1 ∧ ¬ n < 0 ∧ ¬ 9 < n))) 0 0 (fun _ => False) := by
  refine Met.ofW (cc := cX9_isTank) (maxL := 1) (ret := (some .boolean)) (by decide) rfl ?_
  intro p e s m args below meth c s₁ B hml hv
  obtain ⟨rfl, -⟩ := hv
  have hx := B.exec
  have hb := B.bytes
  have hr := B.returns
  have hts := atoms_spec (ws := wsX9_isTank) B.pre
  have hown : s.vm.findClass RX9 = some m.cls := findClass_of_methodNamed B.named
  have hlocks := B.notSynchronized
  have hl := lv_entry ([.int n]) (n := 1) (Nat.le_of_ble_eq_true rfl)
  rw [lg_entry_eq]
  generalize (lg_sl ([.int n]) ++ List.replicate (1 - (lg_sl ([.int n])).length) Slot.unset).toArray = ls at hl ⊢
  have hl : lv_has ls 1 [(0, .int n)] := hl
  refine lv_iload_n hx hb dX9_isTank_0 rfl (lv_at hl 0 rfl) ?_
  refine lv_if_lt (tgt := 14) hx hb dX9_isTank_1 (by decide) (fun c_1 => ?_) (fun c_1 => ?_)
  · refine lv_iconst (v := 0) hx hb dX9_isTank_14 (by decide) ?_
    exact W.zret (v := 0) hx hb hr rfl (fun t ht hW => ⟨0, rfl, Or.inl ⟨rfl, Or.inl c_1⟩, ht⟩) (fun _ h9 => by cases h9) dX9_isTank_15
  refine lv_iload_n hx hb dX9_isTank_4 rfl (lv_at hl 0 rfl) ?_
  refine lv_bipush (v := 10) hx hb dX9_isTank_5 (by decide) ?_
  refine lv_icmp_ge (tgt := 14) hx hb dX9_isTank_7 (by decide) (fun c_2 => ?_) (fun c_2 => ?_)
  · refine lv_iconst (v := 0) hx hb dX9_isTank_14 (by decide) ?_
    exact W.zret (v := 0) hx hb hr rfl (fun t ht hW => ⟨0, rfl, Or.inl ⟨rfl, Or.inr (i_le_of c_2 (by decide))⟩, ht⟩) (fun _ h9 => by cases h9) dX9_isTank_15
  refine lv_iconst (v := 1) hx hb dX9_isTank_10 (by decide) ?_
  refine lv_goto (tgt := 15) hx hb dX9_isTank_11 (by decide) ?_
  exact W.zret (v := 1) hx hb hr rfl (fun t ht hW => ⟨1, rfl, Or.inr ⟨rfl, c_1, i_nle_of c_2 (by decide)⟩, ht⟩) (fun _ h9 => by cases h9) dX9_isTank_15
set_option maxHeartbeats 4000000 in
set_option maxRecDepth 100000 in
theorem s_X8_lotAt (l : Launch) (D : va_G) (ws : va_W) (tys : List (ClassId × FieldType)) (h0 k0 : Nat) (fs : List Value) (la k1 : Nat) (c1 : ClassId) (g : Nat → Option Nat) (t1 : Nat) (n : Int32) (e0 : ws[k0]? = some (h0, .inr (8, fs))) (f0 : fs[0]? = some (.ref la)) (e1 : ws[k1]? = some (la, .inl (c1, 40, .inr (.inr (.inr (.inr g)))))) (u1 : tys[t1]? = some (c1, .object RX2)) : Met l yX8_lotAt wsX8_lotAt ({ frames := 1, cells := 0, slots := 0, locals := 22 }) (va_Pc [.ref h0, .int n] (fun U => va_P D vwCl ws U.heap ∧ va_K D vwCl tys U)) (va_Sq (fun r => (r = none ∧ (n < 0 ∨ 39 < n)) ∨ (¬ n < 0 ∧ ¬ 39 < n ∧ r = g n.toNatClampNeg))) 0 0 (fun _ => False) := by
  refine Met.ofW (cc := cX8_lotAt) (maxL := 2) (ret := (some (.object "HoneyHouse$Lot"))) (by decide) rfl ?_
  intro p e s m args below meth c s₁ B hml hv
  obtain ⟨rfl, hP, hK⟩ := hv
  have hx := B.exec
  have hb := B.bytes
  have hr := B.returns
  have hts := atoms_spec (ws := wsX8_lotAt) B.pre
  have hown : s.vm.findClass RX8 = some m.cls := findClass_of_methodNamed B.named
  have hlocks := B.notSynchronized
  have hin8 : ∀ w ∈ u_ws RX8 TX8 15, w ∈ wsX8_lotAt := (fun _ h9 => List.mem_cons_of_mem _ ((List.mem_append_right _ h9)))
  have hl := lv_entry ([.ref h0, .int n]) (n := 2) (Nat.le_of_ble_eq_true rfl)
  rw [lg_entry_eq]
  generalize (lg_sl ([.ref h0, .int n]) ++ List.replicate (2 - (lg_sl ([.ref h0, .int n])).length) Slot.unset).toArray = ls at hl ⊢
  have hl : lv_has ls 2 [(0, .ref h0), (1, .int n)] := hl
  refine lv_iload_n hx hb dX8_lotAt_0 rfl (lv_at hl 1 rfl) ?_
  refine lv_iconst (v := 0) hx hb dX8_lotAt_1 (by decide) ?_
  refine lv_aload_n hx hb dX8_lotAt_2 rfl (lv_at hl 0 rfl) ?_
  refine va_get (D := D) (ci := 8) (v := .ref la) (C := RX8) (T := TX8) (N := 15) hx hb hts hin8 hown hK hP k0 e0 rfl 0 (by decide) (hts (.fieldLink RX8 11 "HoneyHouse" "lots" "[LHoneyHouse$Lot;") (List.mem_of_getElem? (i := 1) rfl)) (fun _ h9 => h9) f0 dX8_lotAt_3 ?_
  refine va_alen (v := 40) hx hb hK hP k1 t1 e1 u1 rfl dX8_lotAt_6 ?_
  refine lv_iconst (v := 1) hx hb dX8_lotAt_7 (by decide) ?_
  refine lv_isub hx hb dX8_lotAt_8 ?_
  refine tp_i (y := 39) (by decide) ?_
  refine vp_callSi (W.runS (As := [.int n, .int 0, .int 39]) (rest := []) ⟨hx, hb, hml, hown, hts⟩ (s_X8_isIn l n 0 39) (va_cwS 3 hts gX8_lotAt_X8_isIn rfl rfl rfl (by decide +kernel) ⟨Nat.le_of_ble_eq_true rfl, Nat.le_of_ble_eq_true rfl⟩) ⟨fun a U g mk q => q, fun U hU hW => ⟨rfl, trivial⟩⟩ rfl rfl hl.1 rfl (lv_room (Nat.le_of_ble_eq_true rfl)) dX8_lotAt_9 ⟨Nat.le_of_ble_eq_true rfl, Nat.le_of_ble_eq_true rfl⟩) (fun r_1 k_2 => ?_)
  rcases k_2 with ⟨rfl, a_3o⟩ | ⟨rfl, a_3, b_4⟩
  · refine lv_if_eq (tgt := 24) hx hb dX8_lotAt_12 (by decide) (fun c_5 => ?_) (fun c_5 => absurd (by decide) c_5)
    refine lv_null hx hb dX8_lotAt_24 ?_
    exact W.aret (v := .null) hx hb hr (Or.inl ⟨_, rfl⟩) (Or.inl rfl) (fun t ht hW => ⟨none, rfl, Or.inl ⟨rfl, a_3o⟩, ht⟩) (fun _ h9 => by cases h9) dX8_lotAt_25
  refine lv_if_eq (tgt := 24) hx hb dX8_lotAt_12 (by decide) (fun c_6 => absurd c_6 (by decide)) (fun c_6 => ?_)
  refine lv_aload_n hx hb dX8_lotAt_15 rfl (lv_at hl 0 rfl) ?_
  refine va_get (D := D) (ci := 8) (v := .ref la) (C := RX8) (T := TX8) (N := 15) hx hb hts hin8 hown hK hP k0 e0 rfl 0 (by decide) (hts (.fieldLink RX8 11 "HoneyHouse" "lots" "[LHoneyHouse$Lot;") (List.mem_of_getElem? (i := 1) rfl)) (fun _ h9 => h9) f0 dX8_lotAt_16 ?_
  refine lv_iload_n hx hb dX8_lotAt_19 rfl (lv_at hl 1 rfl) ?_
  refine va_aldq (f := g) (n := 40) hx hb hK hP k1 t1 e1 u1 (i_in a_3 b_4 (by decide)) dX8_lotAt_20 ?_
  refine lv_goto (tgt := 25) hx hb dX8_lotAt_21 (by decide) ?_
  exact W.aret (v := va_rf (g n.toNatClampNeg)) hx hb hr (Or.inl ⟨_, rfl⟩) (va_rf_or _) (fun t ht hW => ⟨g n.toNatClampNeg, rfl, Or.inr ⟨a_3, b_4, rfl⟩, ht⟩) (fun _ h9 => by cases h9) dX8_lotAt_25
set_option maxHeartbeats 4000000 in
set_option maxRecDepth 100000 in
theorem s_X8_tankAt (l : Launch) (D : va_G) (ws : va_W) (tys : List (ClassId × FieldType)) (h0 k0 : Nat) (fs : List Value) (la k1 : Nat) (c1 : ClassId) (g : Nat → Option Nat) (t1 : Nat) (n : Int32) (e0 : ws[k0]? = some (h0, .inr (8, fs))) (f0 : fs[1]? = some (.ref la)) (e1 : ws[k1]? = some (la, .inl (c1, 10, .inr (.inr (.inr (.inr g)))))) (u1 : tys[t1]? = some (c1, .object RX7)) : Met l yX8_tankAt wsX8_tankAt ({ frames := 1, cells := 0, slots := 0, locals := 22 }) (va_Pc [.ref h0, .int n] (fun U => va_P D vwCl ws U.heap ∧ va_K D vwCl tys U)) (va_Sq (fun r => (r = none ∧ (n < 0 ∨ 9 < n)) ∨ (¬ n < 0 ∧ ¬ 9 < n ∧ r = g n.toNatClampNeg))) 0 0 (fun _ => False) := by
  refine Met.ofW (cc := cX8_tankAt) (maxL := 2) (ret := (some (.object "HoneyHouse$Vessel"))) (by decide) rfl ?_
  intro p e s m args below meth c s₁ B hml hv
  obtain ⟨rfl, hP, hK⟩ := hv
  have hx := B.exec
  have hb := B.bytes
  have hr := B.returns
  have hts := atoms_spec (ws := wsX8_tankAt) B.pre
  have hown : s.vm.findClass RX8 = some m.cls := findClass_of_methodNamed B.named
  have hlocks := B.notSynchronized
  have hin8 : ∀ w ∈ u_ws RX8 TX8 15, w ∈ wsX8_tankAt := (fun _ h9 => List.mem_cons_of_mem _ ((List.mem_append_right _ h9)))
  have hl := lv_entry ([.ref h0, .int n]) (n := 2) (Nat.le_of_ble_eq_true rfl)
  rw [lg_entry_eq]
  generalize (lg_sl ([.ref h0, .int n]) ++ List.replicate (2 - (lg_sl ([.ref h0, .int n])).length) Slot.unset).toArray = ls at hl ⊢
  have hl : lv_has ls 2 [(0, .ref h0), (1, .int n)] := hl
  refine lv_iload_n hx hb dX8_tankAt_0 rfl (lv_at hl 1 rfl) ?_
  refine lv_iconst (v := 0) hx hb dX8_tankAt_1 (by decide) ?_
  refine lv_aload_n hx hb dX8_tankAt_2 rfl (lv_at hl 0 rfl) ?_
  refine va_get (D := D) (ci := 8) (v := .ref la) (C := RX8) (T := TX8) (N := 15) hx hb hts hin8 hown hK hP k0 e0 rfl 1 (by decide) (hts (.fieldLink RX8 17 "HoneyHouse" "tanks" "[LHoneyHouse$Vessel;") (List.mem_of_getElem? (i := 1) rfl)) (fun _ h9 => h9) f0 dX8_tankAt_3 ?_
  refine va_alen (v := 10) hx hb hK hP k1 t1 e1 u1 rfl dX8_tankAt_6 ?_
  refine lv_iconst (v := 1) hx hb dX8_tankAt_7 (by decide) ?_
  refine lv_isub hx hb dX8_tankAt_8 ?_
  refine tp_i (y := 9) (by decide) ?_
  refine vp_callSi (W.runS (As := [.int n, .int 0, .int 9]) (rest := []) ⟨hx, hb, hml, hown, hts⟩ (s_X8_isIn l n 0 9) (va_cwS 3 hts gX8_tankAt_X8_isIn rfl rfl rfl (by decide +kernel) ⟨Nat.le_of_ble_eq_true rfl, Nat.le_of_ble_eq_true rfl⟩) ⟨fun a U g mk q => q, fun U hU hW => ⟨rfl, trivial⟩⟩ rfl rfl hl.1 rfl (lv_room (Nat.le_of_ble_eq_true rfl)) dX8_tankAt_9 ⟨Nat.le_of_ble_eq_true rfl, Nat.le_of_ble_eq_true rfl⟩) (fun r_1 k_2 => ?_)
  rcases k_2 with ⟨rfl, a_3o⟩ | ⟨rfl, a_3, b_4⟩
  · refine lv_if_eq (tgt := 24) hx hb dX8_tankAt_12 (by decide) (fun c_5 => ?_) (fun c_5 => absurd (by decide) c_5)
    refine lv_null hx hb dX8_tankAt_24 ?_
    exact W.aret (v := .null) hx hb hr (Or.inl ⟨_, rfl⟩) (Or.inl rfl) (fun t ht hW => ⟨none, rfl, Or.inl ⟨rfl, a_3o⟩, ht⟩) (fun _ h9 => by cases h9) dX8_tankAt_25
  refine lv_if_eq (tgt := 24) hx hb dX8_tankAt_12 (by decide) (fun c_6 => absurd c_6 (by decide)) (fun c_6 => ?_)
  refine lv_aload_n hx hb dX8_tankAt_15 rfl (lv_at hl 0 rfl) ?_
  refine va_get (D := D) (ci := 8) (v := .ref la) (C := RX8) (T := TX8) (N := 15) hx hb hts hin8 hown hK hP k0 e0 rfl 1 (by decide) (hts (.fieldLink RX8 17 "HoneyHouse" "tanks" "[LHoneyHouse$Vessel;") (List.mem_of_getElem? (i := 1) rfl)) (fun _ h9 => h9) f0 dX8_tankAt_16 ?_
  refine lv_iload_n hx hb dX8_tankAt_19 rfl (lv_at hl 1 rfl) ?_
  refine va_aldq (f := g) (n := 10) hx hb hK hP k1 t1 e1 u1 (i_in a_3 b_4 (by decide)) dX8_tankAt_20 ?_
  refine lv_goto (tgt := 25) hx hb dX8_tankAt_21 (by decide) ?_
  exact W.aret (v := va_rf (g n.toNatClampNeg)) hx hb hr (Or.inl ⟨_, rfl⟩) (va_rf_or _) (fun t ht hW => ⟨g n.toNatClampNeg, rfl, Or.inr ⟨a_3, b_4, rfl⟩, ht⟩) (fun _ h9 => by cases h9) dX8_tankAt_25
set_option maxHeartbeats 4000000 in
set_option maxRecDepth 100000 in
theorem s_X8_ruleAt (l : Launch) (D : va_G) (ws : va_W) (tys : List (ClassId × FieldType)) (h0 k0 : Nat) (fs : List Value) (la k1 : Nat) (c1 : ClassId) (g : Nat → Option Nat) (t1 : Nat) (n : Int32) (e0 : ws[k0]? = some (h0, .inr (8, fs))) (f0 : fs[3]? = some (.ref la)) (e1 : ws[k1]? = some (la, .inl (c1, 16, .inr (.inr (.inr (.inr g)))))) (u1 : tys[t1]? = some (c1, .object RX3)) : Met l yX8_ruleAt wsX8_ruleAt ({ frames := 1, cells := 0, slots := 0, locals := 22 }) (va_Pc [.ref h0, .int n] (fun U => va_P D vwCl ws U.heap ∧ va_K D vwCl tys U)) (va_Sq (fun r => (r = none ∧ (n < 0 ∨ 15 < n)) ∨ (¬ n < 0 ∧ ¬ 15 < n ∧ r = g n.toNatClampNeg))) 0 0 (fun _ => False) := by
  refine Met.ofW (cc := cX8_ruleAt) (maxL := 2) (ret := (some (.object "HoneyHouse$Rule"))) (by decide) rfl ?_
  intro p e s m args below meth c s₁ B hml hv
  obtain ⟨rfl, hP, hK⟩ := hv
  have hx := B.exec
  have hb := B.bytes
  have hr := B.returns
  have hts := atoms_spec (ws := wsX8_ruleAt) B.pre
  have hown : s.vm.findClass RX8 = some m.cls := findClass_of_methodNamed B.named
  have hlocks := B.notSynchronized
  have hin8 : ∀ w ∈ u_ws RX8 TX8 15, w ∈ wsX8_ruleAt := (fun _ h9 => List.mem_cons_of_mem _ ((List.mem_append_right _ h9)))
  have hl := lv_entry ([.ref h0, .int n]) (n := 2) (Nat.le_of_ble_eq_true rfl)
  rw [lg_entry_eq]
  generalize (lg_sl ([.ref h0, .int n]) ++ List.replicate (2 - (lg_sl ([.ref h0, .int n])).length) Slot.unset).toArray = ls at hl ⊢
  have hl : lv_has ls 2 [(0, .ref h0), (1, .int n)] := hl
  refine lv_iload_n hx hb dX8_ruleAt_0 rfl (lv_at hl 1 rfl) ?_
  refine lv_iconst (v := 0) hx hb dX8_ruleAt_1 (by decide) ?_
  refine lv_aload_n hx hb dX8_ruleAt_2 rfl (lv_at hl 0 rfl) ?_
  refine va_get (D := D) (ci := 8) (v := .ref la) (C := RX8) (T := TX8) (N := 15) hx hb hts hin8 hown hK hP k0 e0 rfl 3 (by decide) (hts (.fieldLink RX8 26 "HoneyHouse" "rules" "[LHoneyHouse$Rule;") (List.mem_of_getElem? (i := 1) rfl)) (fun _ h9 => h9) f0 dX8_ruleAt_3 ?_
  refine va_alen (v := 16) hx hb hK hP k1 t1 e1 u1 rfl dX8_ruleAt_6 ?_
  refine lv_iconst (v := 1) hx hb dX8_ruleAt_7 (by decide) ?_
  refine lv_isub hx hb dX8_ruleAt_8 ?_
  refine tp_i (y := 15) (by decide) ?_
  refine vp_callSi (W.runS (As := [.int n, .int 0, .int 15]) (rest := []) ⟨hx, hb, hml, hown, hts⟩ (s_X8_isIn l n 0 15) (va_cwS 3 hts gX8_ruleAt_X8_isIn rfl rfl rfl (by decide +kernel) ⟨Nat.le_of_ble_eq_true rfl, Nat.le_of_ble_eq_true rfl⟩) ⟨fun a U g mk q => q, fun U hU hW => ⟨rfl, trivial⟩⟩ rfl rfl hl.1 rfl (lv_room (Nat.le_of_ble_eq_true rfl)) dX8_ruleAt_9 ⟨Nat.le_of_ble_eq_true rfl, Nat.le_of_ble_eq_true rfl⟩) (fun r_1 k_2 => ?_)
  rcases k_2 with ⟨rfl, a_3o⟩ | ⟨rfl, a_3, b_4⟩
  · refine lv_if_eq (tgt := 24) hx hb dX8_ruleAt_12 (by decide) (fun c_5 => ?_) (fun c_5 => absurd (by decide) c_5)
    refine lv_null hx hb dX8_ruleAt_24 ?_
    exact W.aret (v := .null) hx hb hr (Or.inl ⟨_, rfl⟩) (Or.inl rfl) (fun t ht hW => ⟨none, rfl, Or.inl ⟨rfl, a_3o⟩, ht⟩) (fun _ h9 => by cases h9) dX8_ruleAt_25
  refine lv_if_eq (tgt := 24) hx hb dX8_ruleAt_12 (by decide) (fun c_6 => absurd c_6 (by decide)) (fun c_6 => ?_)
  refine lv_aload_n hx hb dX8_ruleAt_15 rfl (lv_at hl 0 rfl) ?_
  refine va_get (D := D) (ci := 8) (v := .ref la) (C := RX8) (T := TX8) (N := 15) hx hb hts hin8 hown hK hP k0 e0 rfl 3 (by decide) (hts (.fieldLink RX8 26 "HoneyHouse" "rules" "[LHoneyHouse$Rule;") (List.mem_of_getElem? (i := 1) rfl)) (fun _ h9 => h9) f0 dX8_ruleAt_16 ?_
  refine lv_iload_n hx hb dX8_ruleAt_19 rfl (lv_at hl 1 rfl) ?_
  refine va_aldq (f := g) (n := 16) hx hb hK hP k1 t1 e1 u1 (i_in a_3 b_4 (by decide)) dX8_ruleAt_20 ?_
  refine lv_goto (tgt := 25) hx hb dX8_ruleAt_21 (by decide) ?_
  exact W.aret (v := va_rf (g n.toNatClampNeg)) hx hb hr (Or.inl ⟨_, rfl⟩) (va_rf_or _) (fun t ht hW => ⟨g n.toNatClampNeg, rfl, Or.inr ⟨a_3, b_4, rfl⟩, ht⟩) (fun _ h9 => by cases h9) dX8_ruleAt_25
/-- the class as it is made: no lot, no batch, no rule, ten empty tanks -/
def XF (ws : va_W) (tys : List (ClassId × FieldType)) (h0 : Nat) : Prop := ∃ (k0 la ta ba ra sn rd dr bl vd fb k1 k2 k3 k4 k5 k6 : Nat) (c1 c2 c3 c4 : ClassId) (t1 t2 t3 t4 : Nat) (g : Nat → Option Nat) (bs rs : List Value),
  ws[k0]? = some (h0, .inr (8, [.ref la, .ref ta, .ref ba, .ref ra, .ref sn, .ref rd, .ref dr, .ref bl, .ref vd, .ref fb, .int 0, .int 0, .int 0, .int 0, .int 0])) ∧
  ws[k1]? = some (la, .inl (c1, 40, .inr (.inr (.inr (.inr (fun _ => none)))))) ∧ tys[t1]? = some (c1, .object RX2) ∧
  ws[k2]? = some (ta, .inl (c2, 10, .inr (.inr (.inr (.inr g))))) ∧ tys[t2]? = some (c2, .object RX7) ∧
  ws[k3]? = some (ba, .inl (c3, 60, .inr (.inr (.inr (.inr (fun _ => none)))))) ∧ tys[t3]? = some (c3, .object RX7) ∧
  ws[k4]? = some (ra, .inl (c4, 16, .inr (.inr (.inr (.inr (fun _ => none)))))) ∧ tys[t4]? = some (c4, .object RX3) ∧
  ws[k5]? = some (bl, .inr (0, bs)) ∧ bs[1]? = some (.int 0) ∧
  ws[k6]? = some (rd, .inr (4, rs)) ∧ rs[3]? = some (.int 0) ∧ rs[4]? = some (.int (-1)) ∧
  (∀ j : Nat, j < 10 → ∃ (v kv gr kg : Nat) (ci : ClassId) (ti : Nat), g j = some v ∧ ws[kv]? = some (v, .inr (7, [.ref gr, .int 0, .int 0, .int 0, .int 0])) ∧ ws[kg]? = some (gr, .inl (ci, 40, .inl (fun _ => 0))) ∧ tys[ti]? = some (ci, .int))
/-- the reference as it is made -/
def MF (ws : va_W) (tys : List (ClassId × FieldType)) (h0 : Nat) : Prop := ∃ (k0 ah ar ap kh kr kp : Nat) (fs : List Value) (ch cr cp : ClassId) (th tr tp : Nat),
  ws[k0]? = some (h0, .inr (9, fs)) ∧ fs[2]? = some (.int 0) ∧ fs[3]? = some (.int 0) ∧ fs[13]? = some (.int 0) ∧ fs[14]? = some (.int 0) ∧ fs[21]? = some (.int 0) ∧ fs[22]? = some (.int (-1)) ∧ fs[35]? = some (.int 0) ∧ fs[43]? = some (.int 0) ∧
  fs[10]? = some (.ref ah) ∧ fs[11]? = some (.ref ar) ∧ fs[12]? = some (.ref ap) ∧
  ws[kh]? = some (ah, .inl (ch, 70, .inl (fun _ => 0))) ∧ tys[th]? = some (ch, .int) ∧ ws[kr]? = some (ar, .inl (cr, 70, .inl (fun _ => 0))) ∧ tys[tr]? = some (cr, .int) ∧ ws[kp]? = some (ap, .inl (cp, 70, .inl (fun _ => 0))) ∧ tys[tp]? = some (cp, .int)
theorem i_cl {n M : Int32} {N : Nat} (a : ¬ n < 0) (b : ¬ M < n) (h : M.toInt + 1 = (N : Int)) (hN : N < 2147483648) : n.toNatClampNeg < N := by
  obtain ⟨j, hj, rfl⟩ := vp_in_of (i_in a b h) (by omega)
  rw [nI_clamp (by omega)]; exact hj
theorem i_g1 {g : Int32} (a : ¬ g < 1) : ¬ g ≤ 0 := by
  rw [i_lt] at a
  rw [i_le]
  have h0 : (0 : Int32).toInt = 0 := by decide
  have h1 : (1 : Int32).toInt = 1 := by decide
  rw [h0]; rw [h1] at a
  omega
end
section
theorem dX8_pollen_0 : decode cX8_pollen 0 = .ok (.aload_n 0, 1) := by decide +kernel
theorem dX8_pollen_1 : decode cX8_pollen 1 = .ok (.iload_n 1, 1) := by decide +kernel
theorem dX8_pollen_2 : decode cX8_pollen 2 = .ok (.invokevirtual 96, 3) := by decide +kernel
theorem dX8_pollen_5 : decode cX8_pollen 5 = .ok (.astore 5, 2) := by decide +kernel
theorem dX8_pollen_7 : decode cX8_pollen 7 = .ok (.aload 5, 2) := by decide +kernel
theorem dX8_pollen_9 : decode cX8_pollen 9 = .ok (.ifnull 12, 3) := by decide +kernel
theorem dX8_pollen_21 : decode cX8_pollen 21 = .ok (.iconst 0, 1) := by decide +kernel
theorem dX8_pollen_22 : decode cX8_pollen 22 = .ok (.ireturn, 1) := by decide +kernel
theorem dX8_test_0 : decode cX8_test 0 = .ok (.aload_n 0, 1) := by decide +kernel
theorem dX8_test_1 : decode cX8_test 1 = .ok (.iload_n 1, 1) := by decide +kernel
theorem dX8_test_2 : decode cX8_test 2 = .ok (.invokevirtual 96, 3) := by decide +kernel
theorem dX8_test_5 : decode cX8_test 5 = .ok (.astore_n 3, 1) := by decide +kernel
theorem dX8_test_6 : decode cX8_test 6 = .ok (.aload_n 3, 1) := by decide +kernel
theorem dX8_test_7 : decode cX8_test 7 = .ok (.ifnull 15, 3) := by decide +kernel
theorem dX8_test_22 : decode cX8_test 22 = .ok (.ldc 110, 2) := by decide +kernel
theorem dX8_test_24 : decode cX8_test 24 = .ok (.ireturn, 1) := by decide +kernel
theorem dX8_of_0 : decode cX8_of 0 = .ok (.aload_n 0, 1) := by decide +kernel
theorem dX8_of_1 : decode cX8_of 1 = .ok (.iload_n 1, 1) := by decide +kernel
theorem dX8_of_2 : decode cX8_of 2 = .ok (.invokevirtual 96, 3) := by decide +kernel
theorem dX8_of_5 : decode cX8_of 5 = .ok (.astore_n 3, 1) := by decide +kernel
theorem dX8_of_6 : decode cX8_of 6 = .ok (.aload_n 3, 1) := by decide +kernel
theorem dX8_of_7 : decode cX8_of 7 = .ok (.ifnonnull 5, 3) := by decide +kernel
theorem dX8_of_10 : decode cX8_of 10 = .ok (.iconst (-1), 1) := by decide +kernel
theorem dX8_of_11 : decode cX8_of 11 = .ok (.ireturn, 1) := by decide +kernel
theorem dX8_span_0 : decode cX8_span 0 = .ok (.aload_n 0, 1) := by decide +kernel
theorem dX8_span_1 : decode cX8_span 1 = .ok (.iload_n 1, 1) := by decide +kernel
theorem dX8_span_2 : decode cX8_span 2 = .ok (.invokevirtual 96, 3) := by decide +kernel
theorem dX8_span_5 : decode cX8_span 5 = .ok (.astore 4, 2) := by decide +kernel
theorem dX8_span_7 : decode cX8_span 7 = .ok (.aload 4, 2) := by decide +kernel
theorem dX8_span_9 : decode cX8_span 9 = .ok (.ifnull 21, 3) := by decide +kernel
theorem dX8_span_30 : decode cX8_span 30 = .ok (.iconst (-1), 1) := by decide +kernel
theorem dX8_span_31 : decode cX8_span 31 = .ok (.ireturn, 1) := by decide +kernel
theorem dX8_trace_0 : decode cX8_trace 0 = .ok (.aload_n 0, 1) := by decide +kernel
theorem dX8_trace_1 : decode cX8_trace 1 = .ok (.iload_n 1, 1) := by decide +kernel
theorem dX8_trace_2 : decode cX8_trace 2 = .ok (.invokevirtual 96, 3) := by decide +kernel
theorem dX8_trace_5 : decode cX8_trace 5 = .ok (.ifnonnull 5, 3) := by decide +kernel
theorem dX8_trace_8 : decode cX8_trace 8 = .ok (.iconst (-1), 1) := by decide +kernel
theorem dX8_trace_9 : decode cX8_trace 9 = .ok (.ireturn, 1) := by decide +kernel
theorem dX8_pour_0 : decode cX8_pour 0 = .ok (.aload_n 0, 1) := by decide +kernel
theorem dX8_pour_1 : decode cX8_pour 1 = .ok (.iload_n 1, 1) := by decide +kernel
theorem dX8_pour_2 : decode cX8_pour 2 = .ok (.invokevirtual 96, 3) := by decide +kernel
theorem dX8_pour_5 : decode cX8_pour 5 = .ok (.astore 4, 2) := by decide +kernel
theorem dX8_pour_7 : decode cX8_pour 7 = .ok (.aload_n 0, 1) := by decide +kernel
theorem dX8_pour_8 : decode cX8_pour 8 = .ok (.iload_n 2, 1) := by decide +kernel
theorem dX8_pour_9 : decode cX8_pour 9 = .ok (.invokevirtual 139, 3) := by decide +kernel
theorem dX8_pour_12 : decode cX8_pour 12 = .ok (.astore 5, 2) := by decide +kernel
theorem dX8_pour_14 : decode cX8_pour 14 = .ok (.aload 4, 2) := by decide +kernel
theorem dX8_pour_16 : decode cX8_pour 16 = .ok (.ifnull 8, 3) := by decide +kernel
theorem dX8_pour_24 : decode cX8_pour 24 = .ok (.iconst (-1), 1) := by decide +kernel
theorem dX8_pour_25 : decode cX8_pour 25 = .ok (.ireturn, 1) := by decide +kernel
theorem dX8_move_0 : decode cX8_move 0 = .ok (.aload_n 0, 1) := by decide +kernel
theorem dX8_move_1 : decode cX8_move 1 = .ok (.iload_n 1, 1) := by decide +kernel
theorem dX8_move_2 : decode cX8_move 2 = .ok (.invokevirtual 139, 3) := by decide +kernel
theorem dX8_move_5 : decode cX8_move 5 = .ok (.astore 4, 2) := by decide +kernel
theorem dX8_move_7 : decode cX8_move 7 = .ok (.aload_n 0, 1) := by decide +kernel
theorem dX8_move_8 : decode cX8_move 8 = .ok (.iload_n 2, 1) := by decide +kernel
theorem dX8_move_9 : decode cX8_move 9 = .ok (.invokevirtual 139, 3) := by decide +kernel
theorem dX8_move_12 : decode cX8_move 12 = .ok (.astore 5, 2) := by decide +kernel
theorem dX8_move_14 : decode cX8_move 14 = .ok (.aload 4, 2) := by decide +kernel
theorem dX8_move_16 : decode cX8_move 16 = .ok (.ifnull 13, 3) := by decide +kernel
theorem dX8_move_19 : decode cX8_move 19 = .ok (.aload 5, 2) := by decide +kernel
theorem dX8_move_21 : decode cX8_move 21 = .ok (.ifnull 8, 3) := by decide +kernel
theorem dX8_move_24 : decode cX8_move 24 = .ok (.iload_n 1, 1) := by decide +kernel
theorem dX8_move_25 : decode cX8_move 25 = .ok (.iload_n 2, 1) := by decide +kernel
theorem dX8_move_26 : decode cX8_move 26 = .ok (.if_icmp .ne 5, 3) := by decide +kernel
theorem dX8_move_29 : decode cX8_move 29 = .ok (.iconst (-1), 1) := by decide +kernel
theorem dX8_move_30 : decode cX8_move 30 = .ok (.ireturn, 1) := by decide +kernel
theorem dX8_move_31 : decode cX8_move 31 = .ok (.iload_n 3, 1) := by decide +kernel
theorem dX8_move_32 : decode cX8_move 32 = .ok (.iconst 1, 1) := by decide +kernel
theorem dX8_move_33 : decode cX8_move 33 = .ok (.aload 4, 2) := by decide +kernel
theorem dX8_move_35 : decode cX8_move 35 = .ok (.getfield 144, 3) := by decide +kernel
theorem dX8_move_38 : decode cX8_move 38 = .ok (.invokestatic 85, 3) := by decide +kernel
theorem dX8_move_41 : decode cX8_move 41 = .ok (.ifCond .eq 12, 3) := by decide +kernel
theorem dX8_move_53 : decode cX8_move 53 = .ok (.bipush (-2), 2) := by decide +kernel
theorem dX8_move_55 : decode cX8_move 55 = .ok (.ireturn, 1) := by decide +kernel
theorem dX8_warm_0 : decode cX8_warm 0 = .ok (.aload_n 0, 1) := by decide +kernel
theorem dX8_warm_1 : decode cX8_warm 1 = .ok (.iload_n 1, 1) := by decide +kernel
theorem dX8_warm_2 : decode cX8_warm 2 = .ok (.invokevirtual 139, 3) := by decide +kernel
theorem dX8_warm_5 : decode cX8_warm 5 = .ok (.astore_n 3, 1) := by decide +kernel
theorem dX8_warm_6 : decode cX8_warm 6 = .ok (.aload_n 3, 1) := by decide +kernel
theorem dX8_warm_7 : decode cX8_warm 7 = .ok (.ifnull 21, 3) := by decide +kernel
theorem dX8_warm_10 : decode cX8_warm 10 = .ok (.aload_n 3, 1) := by decide +kernel
theorem dX8_warm_11 : decode cX8_warm 11 = .ok (.getfield 144, 3) := by decide +kernel
theorem dX8_warm_14 : decode cX8_warm 14 = .ok (.ifCond .eq 14, 3) := by decide +kernel
theorem dX8_warm_28 : decode cX8_warm 28 = .ok (.iconst (-1), 1) := by decide +kernel
theorem dX8_warm_29 : decode cX8_warm 29 = .ok (.ireturn, 1) := by decide +kernel
theorem dX8_jar_0 : decode cX8_jar 0 = .ok (.aload_n 0, 1) := by decide +kernel
theorem dX8_jar_1 : decode cX8_jar 1 = .ok (.iload_n 1, 1) := by decide +kernel
theorem dX8_jar_2 : decode cX8_jar 2 = .ok (.invokevirtual 139, 3) := by decide +kernel
theorem dX8_jar_5 : decode cX8_jar 5 = .ok (.astore_n 3, 1) := by decide +kernel
theorem dX8_jar_6 : decode cX8_jar 6 = .ok (.aload_n 3, 1) := by decide +kernel
theorem dX8_jar_7 : decode cX8_jar 7 = .ok (.ifnonnull 5, 3) := by decide +kernel
theorem dX8_jar_10 : decode cX8_jar 10 = .ok (.iconst (-1), 1) := by decide +kernel
theorem dX8_jar_11 : decode cX8_jar 11 = .ok (.ireturn, 1) := by decide +kernel
theorem dX8_jar_12 : decode cX8_jar 12 = .ok (.iload_n 2, 1) := by decide +kernel
theorem dX8_jar_13 : decode cX8_jar 13 = .ok (.iconst 1, 1) := by decide +kernel
theorem dX8_jar_14 : decode cX8_jar 14 = .ok (.aload_n 3, 1) := by decide +kernel
theorem dX8_jar_15 : decode cX8_jar 15 = .ok (.getfield 144, 3) := by decide +kernel
theorem dX8_jar_18 : decode cX8_jar 18 = .ok (.invokestatic 85, 3) := by decide +kernel
theorem dX8_jar_21 : decode cX8_jar 21 = .ok (.ifCond .ne 6, 3) := by decide +kernel
theorem dX8_jar_24 : decode cX8_jar 24 = .ok (.bipush (-2), 2) := by decide +kernel
theorem dX8_jar_26 : decode cX8_jar 26 = .ok (.ireturn, 1) := by decide +kernel
theorem dX8_spill_0 : decode cX8_spill 0 = .ok (.aload_n 0, 1) := by decide +kernel
theorem dX8_spill_1 : decode cX8_spill 1 = .ok (.iload_n 1, 1) := by decide +kernel
theorem dX8_spill_2 : decode cX8_spill 2 = .ok (.invokevirtual 139, 3) := by decide +kernel
theorem dX8_spill_5 : decode cX8_spill 5 = .ok (.astore_n 3, 1) := by decide +kernel
theorem dX8_spill_6 : decode cX8_spill 6 = .ok (.aload_n 3, 1) := by decide +kernel
theorem dX8_spill_7 : decode cX8_spill 7 = .ok (.ifnonnull 5, 3) := by decide +kernel
theorem dX8_spill_10 : decode cX8_spill 10 = .ok (.iconst (-1), 1) := by decide +kernel
theorem dX8_spill_11 : decode cX8_spill 11 = .ok (.ireturn, 1) := by decide +kernel
theorem dX8_spill_12 : decode cX8_spill 12 = .ok (.iload_n 2, 1) := by decide +kernel
theorem dX8_spill_13 : decode cX8_spill 13 = .ok (.iconst 1, 1) := by decide +kernel
theorem dX8_spill_14 : decode cX8_spill 14 = .ok (.aload_n 3, 1) := by decide +kernel
theorem dX8_spill_15 : decode cX8_spill 15 = .ok (.getfield 144, 3) := by decide +kernel
theorem dX8_spill_18 : decode cX8_spill 18 = .ok (.invokestatic 85, 3) := by decide +kernel
theorem dX8_spill_21 : decode cX8_spill 21 = .ok (.ifCond .ne 6, 3) := by decide +kernel
theorem dX8_spill_24 : decode cX8_spill 24 = .ok (.bipush (-2), 2) := by decide +kernel
theorem dX8_spill_26 : decode cX8_spill 26 = .ok (.ireturn, 1) := by decide +kernel
theorem dX8_vesselAt_0 : decode cX8_vesselAt 0 = .ok (.iload_n 1, 1) := by decide +kernel
theorem dX8_vesselAt_1 : decode cX8_vesselAt 1 = .ok (.ifCond .ne 9, 3) := by decide +kernel
theorem dX8_vesselAt_4 : decode cX8_vesselAt 4 = .ok (.aload_n 0, 1) := by decide +kernel
theorem dX8_vesselAt_5 : decode cX8_vesselAt 5 = .ok (.iload_n 2, 1) := by decide +kernel
theorem dX8_vesselAt_6 : decode cX8_vesselAt 6 = .ok (.invokevirtual 139, 3) := by decide +kernel
theorem dX8_vesselAt_9 : decode cX8_vesselAt 9 = .ok (.areturn, 1) := by decide +kernel
theorem dX8_vesselAt_10 : decode cX8_vesselAt 10 = .ok (.iload_n 1, 1) := by decide +kernel
theorem dX8_vesselAt_11 : decode cX8_vesselAt 11 = .ok (.iconst 1, 1) := by decide +kernel
theorem dX8_vesselAt_12 : decode cX8_vesselAt 12 = .ok (.if_icmp .ne 27, 3) := by decide +kernel
theorem dX8_vesselAt_15 : decode cX8_vesselAt 15 = .ok (.iload_n 2, 1) := by decide +kernel
theorem dX8_vesselAt_16 : decode cX8_vesselAt 16 = .ok (.iconst 0, 1) := by decide +kernel
theorem dX8_vesselAt_17 : decode cX8_vesselAt 17 = .ok (.aload_n 0, 1) := by decide +kernel
theorem dX8_vesselAt_18 : decode cX8_vesselAt 18 = .ok (.getfield 21, 3) := by decide +kernel
theorem dX8_vesselAt_21 : decode cX8_vesselAt 21 = .ok (.arraylength, 1) := by decide +kernel
theorem dX8_vesselAt_22 : decode cX8_vesselAt 22 = .ok (.iconst 1, 1) := by decide +kernel
theorem dX8_vesselAt_23 : decode cX8_vesselAt 23 = .ok (.isub, 1) := by decide +kernel
theorem dX8_vesselAt_24 : decode cX8_vesselAt 24 = .ok (.invokestatic 85, 3) := by decide +kernel
theorem dX8_vesselAt_27 : decode cX8_vesselAt 27 = .ok (.ifCond .eq 12, 3) := by decide +kernel
theorem dX8_vesselAt_30 : decode cX8_vesselAt 30 = .ok (.aload_n 0, 1) := by decide +kernel
theorem dX8_vesselAt_31 : decode cX8_vesselAt 31 = .ok (.getfield 21, 3) := by decide +kernel
theorem dX8_vesselAt_34 : decode cX8_vesselAt 34 = .ok (.iload_n 2, 1) := by decide +kernel
theorem dX8_vesselAt_35 : decode cX8_vesselAt 35 = .ok (.aaload, 1) := by decide +kernel
theorem dX8_vesselAt_36 : decode cX8_vesselAt 36 = .ok (.goto 4, 3) := by decide +kernel
theorem dX8_vesselAt_39 : decode cX8_vesselAt 39 = .ok (.aconst_null, 1) := by decide +kernel
theorem dX8_vesselAt_40 : decode cX8_vesselAt 40 = .ok (.areturn, 1) := by decide +kernel
theorem dX8_holds_0 : decode cX8_holds 0 = .ok (.aload_n 0, 1) := by decide +kernel
theorem dX8_holds_1 : decode cX8_holds 1 = .ok (.iload_n 1, 1) := by decide +kernel
theorem dX8_holds_2 : decode cX8_holds 2 = .ok (.iload_n 2, 1) := by decide +kernel
theorem dX8_holds_3 : decode cX8_holds 3 = .ok (.invokevirtual 173, 3) := by decide +kernel
theorem dX8_holds_6 : decode cX8_holds 6 = .ok (.astore 4, 2) := by decide +kernel
theorem dX8_holds_8 : decode cX8_holds 8 = .ok (.aload 4, 2) := by decide +kernel
theorem dX8_holds_10 : decode cX8_holds 10 = .ok (.ifnonnull 5, 3) := by decide +kernel
theorem dX8_holds_13 : decode cX8_holds 13 = .ok (.iconst (-1), 1) := by decide +kernel
theorem dX8_holds_14 : decode cX8_holds 14 = .ok (.ireturn, 1) := by decide +kernel
theorem dX8_holds_15 : decode cX8_holds 15 = .ok (.iload_n 3, 1) := by decide +kernel
theorem dX8_holds_16 : decode cX8_holds 16 = .ok (.tableswitch 66 0 4 #[36, 42, 48, 54, 60], 36) := by decide +kernel
theorem dX8_holds_52 : decode cX8_holds 52 = .ok (.aload 4, 2) := by decide +kernel
theorem dX8_holds_54 : decode cX8_holds 54 = .ok (.getfield 144, 3) := by decide +kernel
theorem dX8_holds_57 : decode cX8_holds 57 = .ok (.ireturn, 1) := by decide +kernel
theorem dX8_holds_58 : decode cX8_holds 58 = .ok (.aload 4, 2) := by decide +kernel
theorem dX8_holds_60 : decode cX8_holds 60 = .ok (.invokevirtual 177, 3) := by decide +kernel
theorem dX8_holds_63 : decode cX8_holds 63 = .ok (.ireturn, 1) := by decide +kernel
theorem dX8_holds_64 : decode cX8_holds 64 = .ok (.aload 4, 2) := by decide +kernel
theorem dX8_holds_66 : decode cX8_holds 66 = .ok (.getfield 160, 3) := by decide +kernel
theorem dX8_holds_69 : decode cX8_holds 69 = .ok (.ireturn, 1) := by decide +kernel
theorem dX8_holds_70 : decode cX8_holds 70 = .ok (.aload 4, 2) := by decide +kernel
theorem dX8_holds_72 : decode cX8_holds 72 = .ok (.getfield 147, 3) := by decide +kernel
theorem dX8_holds_75 : decode cX8_holds 75 = .ok (.ireturn, 1) := by decide +kernel
theorem dX8_holds_76 : decode cX8_holds 76 = .ok (.aload 4, 2) := by decide +kernel
theorem dX8_holds_78 : decode cX8_holds 78 = .ok (.getfield 150, 3) := by decide +kernel
theorem dX8_holds_81 : decode cX8_holds 81 = .ok (.ireturn, 1) := by decide +kernel
theorem dX8_holds_82 : decode cX8_holds 82 = .ok (.iconst (-1), 1) := by decide +kernel
theorem dX8_holds_83 : decode cX8_holds 83 = .ok (.ireturn, 1) := by decide +kernel
theorem dX8_part_0 : decode cX8_part 0 = .ok (.aload_n 0, 1) := by decide +kernel
theorem dX8_part_1 : decode cX8_part 1 = .ok (.iload_n 1, 1) := by decide +kernel
theorem dX8_part_2 : decode cX8_part 2 = .ok (.iload_n 2, 1) := by decide +kernel
theorem dX8_part_3 : decode cX8_part 3 = .ok (.invokevirtual 173, 3) := by decide +kernel
theorem dX8_part_6 : decode cX8_part 6 = .ok (.astore 4, 2) := by decide +kernel
theorem dX8_part_8 : decode cX8_part 8 = .ok (.aload 4, 2) := by decide +kernel
theorem dX8_part_10 : decode cX8_part 10 = .ok (.ifnull 11, 3) := by decide +kernel
theorem dX8_part_13 : decode cX8_part 13 = .ok (.aload_n 0, 1) := by decide +kernel
theorem dX8_part_14 : decode cX8_part 14 = .ok (.iload_n 3, 1) := by decide +kernel
theorem dX8_part_15 : decode cX8_part 15 = .ok (.invokevirtual 96, 3) := by decide +kernel
theorem dX8_part_18 : decode cX8_part 18 = .ok (.ifnonnull 5, 3) := by decide +kernel
theorem dX8_part_21 : decode cX8_part 21 = .ok (.iconst (-1), 1) := by decide +kernel
theorem dX8_part_22 : decode cX8_part 22 = .ok (.ireturn, 1) := by decide +kernel
theorem dX8_isPollenLow_0 : decode cX8_isPollenLow 0 = .ok (.iload_n 0, 1) := by decide +kernel
theorem dX8_isPollenLow_1 : decode cX8_isPollenLow 1 = .ok (.bipush 10, 2) := by decide +kernel
theorem dX8_isPollenLow_3 : decode cX8_isPollenLow 3 = .ok (.bipush 14, 2) := by decide +kernel
theorem dX8_isPollenLow_5 : decode cX8_isPollenLow 5 = .ok (.invokestatic 85, 3) := by decide +kernel
theorem dX8_isPollenLow_8 : decode cX8_isPollenLow 8 = .ok (.ireturn, 1) := by decide +kernel
theorem dX8_isPollenHigh_0 : decode cX8_isPollenHigh 0 = .ok (.iload_n 0, 1) := by decide +kernel
theorem dX8_isPollenHigh_1 : decode cX8_isPollenHigh 1 = .ok (.bipush 20, 2) := by decide +kernel
theorem dX8_isPollenHigh_3 : decode cX8_isPollenHigh 3 = .ok (.bipush 24, 2) := by decide +kernel
theorem dX8_isPollenHigh_5 : decode cX8_isPollenHigh 5 = .ok (.invokestatic 85, 3) := by decide +kernel
theorem dX8_isPollenHigh_8 : decode cX8_isPollenHigh 8 = .ok (.ireturn, 1) := by decide +kernel
theorem dX8_isMeasure_0 : decode cX8_isMeasure 0 = .ok (.iload_n 0, 1) := by decide +kernel
theorem dX8_isMeasure_1 : decode cX8_isMeasure 1 = .ok (.iconst 0, 1) := by decide +kernel
theorem dX8_isMeasure_2 : decode cX8_isMeasure 2 = .ok (.iconst 2, 1) := by decide +kernel
theorem dX8_isMeasure_3 : decode cX8_isMeasure 3 = .ok (.invokestatic 85, 3) := by decide +kernel
theorem dX8_isMeasure_6 : decode cX8_isMeasure 6 = .ok (.ifCond .ne 28, 3) := by decide +kernel
theorem dX8_isMeasure_9 : decode cX8_isMeasure 9 = .ok (.iload_n 0, 1) := by decide +kernel
theorem dX8_isMeasure_10 : decode cX8_isMeasure 10 = .ok (.invokestatic 279, 3) := by decide +kernel
theorem dX8_isMeasure_13 : decode cX8_isMeasure 13 = .ok (.ifCond .ne 21, 3) := by decide +kernel
theorem dX8_isMeasure_16 : decode cX8_isMeasure 16 = .ok (.iload_n 0, 1) := by decide +kernel
theorem dX8_isMeasure_17 : decode cX8_isMeasure 17 = .ok (.invokestatic 282, 3) := by decide +kernel
theorem dX8_isMeasure_20 : decode cX8_isMeasure 20 = .ok (.ifCond .ne 14, 3) := by decide +kernel
theorem dX8_isMeasure_23 : decode cX8_isMeasure 23 = .ok (.iload_n 0, 1) := by decide +kernel
theorem dX8_isMeasure_24 : decode cX8_isMeasure 24 = .ok (.bipush 30, 2) := by decide +kernel
theorem dX8_isMeasure_26 : decode cX8_isMeasure 26 = .ok (.bipush 33, 2) := by decide +kernel
theorem dX8_isMeasure_28 : decode cX8_isMeasure 28 = .ok (.invokestatic 85, 3) := by decide +kernel
theorem dX8_isMeasure_31 : decode cX8_isMeasure 31 = .ok (.ifCond .eq 7, 3) := by decide +kernel
theorem dX8_isMeasure_34 : decode cX8_isMeasure 34 = .ok (.iconst 1, 1) := by decide +kernel
theorem dX8_isMeasure_35 : decode cX8_isMeasure 35 = .ok (.goto 4, 3) := by decide +kernel
theorem dX8_isMeasure_38 : decode cX8_isMeasure 38 = .ok (.iconst 0, 1) := by decide +kernel
theorem dX8_isMeasure_39 : decode cX8_isMeasure 39 = .ok (.ireturn, 1) := by decide +kernel
theorem dX8_told_0 : decode cX8_told 0 = .ok (.aload_n 1, 1) := by decide +kernel
theorem dX8_told_1 : decode cX8_told 1 = .ok (.getfield 144, 3) := by decide +kernel
theorem dX8_told_4 : decode cX8_told 4 = .ok (.ifCond .gt 5, 3) := by decide +kernel
theorem dX8_told_7 : decode cX8_told 7 = .ok (.iconst (-1), 1) := by decide +kernel
theorem dX8_told_8 : decode cX8_told 8 = .ok (.ireturn, 1) := by decide +kernel
theorem dX8_measure_0 : decode cX8_measure 0 = .ok (.aload_n 0, 1) := by decide +kernel
theorem dX8_measure_1 : decode cX8_measure 1 = .ok (.iload_n 1, 1) := by decide +kernel
theorem dX8_measure_2 : decode cX8_measure 2 = .ok (.iload_n 2, 1) := by decide +kernel
theorem dX8_measure_3 : decode cX8_measure 3 = .ok (.invokevirtual 173, 3) := by decide +kernel
theorem dX8_measure_6 : decode cX8_measure 6 = .ok (.astore 4, 2) := by decide +kernel
theorem dX8_measure_8 : decode cX8_measure 8 = .ok (.aload 4, 2) := by decide +kernel
theorem dX8_measure_10 : decode cX8_measure 10 = .ok (.ifnull 10, 3) := by decide +kernel
theorem dX8_measure_13 : decode cX8_measure 13 = .ok (.iload_n 3, 1) := by decide +kernel
theorem dX8_measure_14 : decode cX8_measure 14 = .ok (.invokestatic 185, 3) := by decide +kernel
theorem dX8_measure_17 : decode cX8_measure 17 = .ok (.ifCond .ne 5, 3) := by decide +kernel
theorem dX8_measure_20 : decode cX8_measure 20 = .ok (.iconst (-1), 1) := by decide +kernel
theorem dX8_measure_21 : decode cX8_measure 21 = .ok (.ireturn, 1) := by decide +kernel
theorem dX8_measure_22 : decode cX8_measure 22 = .ok (.aload_n 0, 1) := by decide +kernel
theorem dX8_measure_23 : decode cX8_measure 23 = .ok (.aload 4, 2) := by decide +kernel
theorem dX8_measure_25 : decode cX8_measure 25 = .ok (.iload_n 3, 1) := by decide +kernel
theorem dX8_measure_26 : decode cX8_measure 26 = .ok (.invokevirtual 188, 3) := by decide +kernel
theorem dX8_measure_29 : decode cX8_measure 29 = .ok (.ireturn, 1) := by decide +kernel
theorem dX8_fault_0 : decode cX8_fault 0 = .ok (.iload_n 1, 1) := by decide +kernel
theorem dX8_fault_1 : decode cX8_fault 1 = .ok (.lookupswitch 43 #[(0, 27), (1, 35)], 27) := by decide +kernel
theorem dX8_fault_28 : decode cX8_fault 28 = .ok (.aload_n 0, 1) := by decide +kernel
theorem dX8_fault_29 : decode cX8_fault 29 = .ok (.getfield 40, 3) := by decide +kernel
theorem dX8_fault_32 : decode cX8_fault 32 = .ok (.getfield 213, 3) := by decide +kernel
theorem dX8_fault_35 : decode cX8_fault 35 = .ok (.ireturn, 1) := by decide +kernel
theorem dX8_fault_36 : decode cX8_fault 36 = .ok (.aload_n 0, 1) := by decide +kernel
theorem dX8_fault_37 : decode cX8_fault 37 = .ok (.getfield 40, 3) := by decide +kernel
theorem dX8_fault_40 : decode cX8_fault 40 = .ok (.getfield 216, 3) := by decide +kernel
theorem dX8_fault_43 : decode cX8_fault 43 = .ok (.ireturn, 1) := by decide +kernel
theorem dX8_fault_44 : decode cX8_fault 44 = .ok (.iconst (-1), 1) := by decide +kernel
theorem dX8_fault_45 : decode cX8_fault 45 = .ok (.ireturn, 1) := by decide +kernel
theorem dX8_shut_0 : decode cX8_shut 0 = .ok (.aload_n 0, 1) := by decide +kernel
theorem dX8_shut_1 : decode cX8_shut 1 = .ok (.iload_n 1, 1) := by decide +kernel
theorem dX8_shut_2 : decode cX8_shut 2 = .ok (.invokevirtual 219, 3) := by decide +kernel
theorem dX8_shut_5 : decode cX8_shut 5 = .ok (.astore_n 3, 1) := by decide +kernel
theorem dX8_shut_6 : decode cX8_shut 6 = .ok (.aload_n 3, 1) := by decide +kernel
theorem dX8_shut_7 : decode cX8_shut 7 = .ok (.ifnull 18, 3) := by decide +kernel
theorem dX8_shut_25 : decode cX8_shut 25 = .ok (.iconst 0, 1) := by decide +kernel
theorem dX8_shut_26 : decode cX8_shut 26 = .ok (.ireturn, 1) := by decide +kernel
theorem dX8_says_0 : decode cX8_says 0 = .ok (.aload_n 0, 1) := by decide +kernel
theorem dX8_says_1 : decode cX8_says 1 = .ok (.iload_n 1, 1) := by decide +kernel
theorem dX8_says_2 : decode cX8_says 2 = .ok (.invokevirtual 219, 3) := by decide +kernel
theorem dX8_says_5 : decode cX8_says 5 = .ok (.astore 4, 2) := by decide +kernel
theorem dX8_says_7 : decode cX8_says 7 = .ok (.aload_n 0, 1) := by decide +kernel
theorem dX8_says_8 : decode cX8_says 8 = .ok (.iload_n 2, 1) := by decide +kernel
theorem dX8_says_9 : decode cX8_says 9 = .ok (.iload_n 3, 1) := by decide +kernel
theorem dX8_says_10 : decode cX8_says 10 = .ok (.invokevirtual 173, 3) := by decide +kernel
theorem dX8_says_13 : decode cX8_says 13 = .ok (.astore 5, 2) := by decide +kernel
theorem dX8_says_15 : decode cX8_says 15 = .ok (.aload 4, 2) := by decide +kernel
theorem dX8_says_17 : decode cX8_says 17 = .ok (.ifnull 16, 3) := by decide +kernel
theorem dX8_says_33 : decode cX8_says 33 = .ok (.iconst (-1), 1) := by decide +kernel
theorem dX8_says_34 : decode cX8_says 34 = .ok (.ireturn, 1) := by decide +kernel
theorem dX8_name_0 : decode cX8_name 0 = .ok (.aload_n 0, 1) := by decide +kernel
theorem dX8_name_1 : decode cX8_name 1 = .ok (.iload_n 1, 1) := by decide +kernel
theorem dX8_name_2 : decode cX8_name 2 = .ok (.iload_n 2, 1) := by decide +kernel
theorem dX8_name_3 : decode cX8_name 3 = .ok (.invokevirtual 173, 3) := by decide +kernel
theorem dX8_name_6 : decode cX8_name 6 = .ok (.astore 4, 2) := by decide +kernel
theorem dX8_name_8 : decode cX8_name 8 = .ok (.aload 4, 2) := by decide +kernel
theorem dX8_name_10 : decode cX8_name 10 = .ok (.ifnull 11, 3) := by decide +kernel
theorem dX8_name_13 : decode cX8_name 13 = .ok (.aload 4, 2) := by decide +kernel
theorem dX8_name_15 : decode cX8_name 15 = .ok (.getfield 144, 3) := by decide +kernel
theorem dX8_name_18 : decode cX8_name 18 = .ok (.ifCond .ne 5, 3) := by decide +kernel
theorem dX8_name_21 : decode cX8_name 21 = .ok (.iconst (-1), 1) := by decide +kernel
theorem dX8_name_22 : decode cX8_name 22 = .ok (.ireturn, 1) := by decide +kernel
theorem dX8_parts_0 : decode cX8_parts 0 = .ok (.aload_n 0, 1) := by decide +kernel
theorem dX8_parts_1 : decode cX8_parts 1 = .ok (.iload_n 1, 1) := by decide +kernel
theorem dX8_parts_2 : decode cX8_parts 2 = .ok (.invokevirtual 139, 3) := by decide +kernel
theorem dX8_parts_5 : decode cX8_parts 5 = .ok (.ifnull 13, 3) := by decide +kernel
theorem dX8_parts_8 : decode cX8_parts 8 = .ok (.aload_n 0, 1) := by decide +kernel
theorem dX8_parts_9 : decode cX8_parts 9 = .ok (.getfield 54, 3) := by decide +kernel
theorem dX8_parts_12 : decode cX8_parts 12 = .ok (.getfield 266, 3) := by decide +kernel
theorem dX8_parts_15 : decode cX8_parts 15 = .ok (.ifCond .ne 5, 3) := by decide +kernel
theorem dX8_parts_18 : decode cX8_parts 18 = .ok (.iconst (-1), 1) := by decide +kernel
theorem dX8_parts_19 : decode cX8_parts 19 = .ok (.ireturn, 1) := by decide +kernel
theorem dX8_found_0 : decode cX8_found 0 = .ok (.iload_n 1, 1) := by decide +kernel
theorem dX8_found_1 : decode cX8_found 1 = .ok (.iconst 0, 1) := by decide +kernel
theorem dX8_found_2 : decode cX8_found 2 = .ok (.aload_n 0, 1) := by decide +kernel
theorem dX8_found_3 : decode cX8_found 3 = .ok (.getfield 272, 3) := by decide +kernel
theorem dX8_found_6 : decode cX8_found 6 = .ok (.iconst 1, 1) := by decide +kernel
theorem dX8_found_7 : decode cX8_found 7 = .ok (.isub, 1) := by decide +kernel
theorem dX8_found_8 : decode cX8_found 8 = .ok (.invokestatic 85, 3) := by decide +kernel
theorem dX8_found_11 : decode cX8_found 11 = .ok (.ifCond .eq 12, 3) := by decide +kernel
theorem dX8_found_23 : decode cX8_found 23 = .ok (.iconst (-1), 1) := by decide +kernel
theorem dX8_found_24 : decode cX8_found 24 = .ok (.ireturn, 1) := by decide +kernel
theorem dX8_count_0 : decode cX8_count 0 = .ok (.iload_n 1, 1) := by decide +kernel
theorem dX8_count_1 : decode cX8_count 1 = .ok (.tableswitch 51 0 3 #[31, 36, 41, 46], 31) := by decide +kernel
theorem dX8_count_32 : decode cX8_count 32 = .ok (.aload_n 0, 1) := by decide +kernel
theorem dX8_count_33 : decode cX8_count 33 = .ok (.getfield 90, 3) := by decide +kernel
theorem dX8_count_36 : decode cX8_count 36 = .ok (.ireturn, 1) := by decide +kernel
theorem dX8_count_37 : decode cX8_count 37 = .ok (.aload_n 0, 1) := by decide +kernel
theorem dX8_count_38 : decode cX8_count 38 = .ok (.getfield 170, 3) := by decide +kernel
theorem dX8_count_41 : decode cX8_count 41 = .ok (.ireturn, 1) := by decide +kernel
theorem dX8_count_42 : decode cX8_count 42 = .ok (.aload_n 0, 1) := by decide +kernel
theorem dX8_count_43 : decode cX8_count 43 = .ok (.getfield 196, 3) := by decide +kernel
theorem dX8_count_46 : decode cX8_count 46 = .ok (.ireturn, 1) := by decide +kernel
theorem dX8_count_47 : decode cX8_count 47 = .ok (.aload_n 0, 1) := by decide +kernel
theorem dX8_count_48 : decode cX8_count 48 = .ok (.getfield 82, 3) := by decide +kernel
theorem dX8_count_51 : decode cX8_count 51 = .ok (.ireturn, 1) := by decide +kernel
theorem dX8_count_52 : decode cX8_count 52 = .ok (.iconst (-1), 1) := by decide +kernel
theorem dX8_count_53 : decode cX8_count 53 = .ok (.ireturn, 1) := by decide +kernel
theorem dX7_lotsInIt_0 : decode cX7_lotsInIt 0 = .ok (.iconst 0, 1) := by decide +kernel
theorem dX7_lotsInIt_1 : decode cX7_lotsInIt 1 = .ok (.istore_n 1, 1) := by decide +kernel
theorem dX7_lotsInIt_2 : decode cX7_lotsInIt 2 = .ok (.iconst 0, 1) := by decide +kernel
theorem dX7_lotsInIt_3 : decode cX7_lotsInIt 3 = .ok (.istore_n 2, 1) := by decide +kernel
theorem dX7_lotsInIt_4 : decode cX7_lotsInIt 4 = .ok (.iload_n 2, 1) := by decide +kernel
theorem dX7_lotsInIt_5 : decode cX7_lotsInIt 5 = .ok (.aload_n 0, 1) := by decide +kernel
theorem dX7_lotsInIt_6 : decode cX7_lotsInIt 6 = .ok (.getfield 9, 3) := by decide +kernel
theorem dX7_lotsInIt_9 : decode cX7_lotsInIt 9 = .ok (.arraylength, 1) := by decide +kernel
theorem dX7_lotsInIt_10 : decode cX7_lotsInIt 10 = .ok (.if_icmp .ge 21, 3) := by decide +kernel
theorem dX7_lotsInIt_13 : decode cX7_lotsInIt 13 = .ok (.aload_n 0, 1) := by decide +kernel
theorem dX7_lotsInIt_14 : decode cX7_lotsInIt 14 = .ok (.getfield 9, 3) := by decide +kernel
theorem dX7_lotsInIt_17 : decode cX7_lotsInIt 17 = .ok (.iload_n 2, 1) := by decide +kernel
theorem dX7_lotsInIt_18 : decode cX7_lotsInIt 18 = .ok (.iaload, 1) := by decide +kernel
theorem dX7_lotsInIt_19 : decode cX7_lotsInIt 19 = .ok (.ifCond .le 6, 3) := by decide +kernel
theorem dX7_lotsInIt_25 : decode cX7_lotsInIt 25 = .ok (.iinc 2 1, 3) := by decide +kernel
theorem dX7_lotsInIt_28 : decode cX7_lotsInIt 28 = .ok (.goto (-24), 3) := by decide +kernel
theorem dX7_lotsInIt_31 : decode cX7_lotsInIt 31 = .ok (.iload_n 1, 1) := by decide +kernel
theorem dX7_lotsInIt_32 : decode cX7_lotsInIt 32 = .ok (.ireturn, 1) := by decide +kernel
set_option maxRecDepth 20000 in
theorem ggX8_pollen_X8_lotAt : GoodIn wsX8_pollen wsX8_lotAt := goodIn_r _ [7, 8, 9, 10, 6, 11, 25, 26, 27, 28, 29, 30, 31, 32, 33, 34, 35, 36, 37, 38, 39] (by decide +kernel) (by decide +kernel)
set_option maxRecDepth 20000 in
theorem gX8_pollen_X8_lotAt : GoodIn wsX8_pollen (wsV RX8 96 RX8 yX8_lotAt wsX8_lotAt) := goodIn_app (goodIn_of _ (by decide +kernel)) ggX8_pollen_X8_lotAt
set_option maxRecDepth 20000 in
theorem ggX8_test_X8_lotAt : GoodIn wsX8_test wsX8_lotAt := goodIn_r _ [10, 11, 12, 13, 9, 14, 33, 34, 35, 36, 37, 38, 39, 40, 41, 42, 43, 44, 45, 46, 47] (by decide +kernel) (by decide +kernel)
set_option maxRecDepth 20000 in
theorem gX8_test_X8_lotAt : GoodIn wsX8_test (wsV RX8 96 RX8 yX8_lotAt wsX8_lotAt) := goodIn_app (goodIn_of _ (by decide +kernel)) ggX8_test_X8_lotAt
set_option maxRecDepth 20000 in
theorem ggX8_of_X8_lotAt : GoodIn wsX8_of wsX8_lotAt := goodIn_r _ [12, 13, 14, 15, 11, 16, 27, 28, 29, 30, 31, 32, 33, 34, 35, 36, 37, 38, 39, 40, 41] (by decide +kernel) (by decide +kernel)
set_option maxRecDepth 20000 in
theorem gX8_of_X8_lotAt : GoodIn wsX8_of (wsV RX8 96 RX8 yX8_lotAt wsX8_lotAt) := goodIn_app (goodIn_of _ (by decide +kernel)) ggX8_of_X8_lotAt
set_option maxRecDepth 20000 in
theorem ggX8_span_X8_lotAt : GoodIn wsX8_span wsX8_lotAt := goodIn_r _ [7, 8, 9, 10, 6, 11, 22, 23, 24, 25, 26, 27, 28, 29, 30, 31, 32, 33, 34, 35, 36] (by decide +kernel) (by decide +kernel)
set_option maxRecDepth 20000 in
theorem gX8_span_X8_lotAt : GoodIn wsX8_span (wsV RX8 96 RX8 yX8_lotAt wsX8_lotAt) := goodIn_app (goodIn_of _ (by decide +kernel)) ggX8_span_X8_lotAt
set_option maxRecDepth 20000 in
theorem ggX8_trace_X8_lotAt : GoodIn wsX8_trace wsX8_lotAt := goodIn_r _ [8, 9, 10, 11, 7, 12, 19, 20, 21, 22, 23, 24, 25, 26, 27, 28, 29, 30, 31, 32, 33] (by decide +kernel) (by decide +kernel)
set_option maxRecDepth 20000 in
theorem gX8_trace_X8_lotAt : GoodIn wsX8_trace (wsV RX8 96 RX8 yX8_lotAt wsX8_lotAt) := goodIn_app (goodIn_of _ (by decide +kernel)) ggX8_trace_X8_lotAt
set_option maxRecDepth 20000 in
theorem ggX8_pour_X8_lotAt : GoodIn wsX8_pour wsX8_lotAt := goodIn_r _ [6, 7, 8, 9, 5, 10, 38, 39, 40, 41, 42, 43, 44, 45, 46, 47, 48, 49, 50, 51, 52] (by decide +kernel) (by decide +kernel)
set_option maxRecDepth 20000 in
theorem gX8_pour_X8_lotAt : GoodIn wsX8_pour (wsV RX8 96 RX8 yX8_lotAt wsX8_lotAt) := goodIn_app (goodIn_of _ (by decide +kernel)) ggX8_pour_X8_lotAt
set_option maxRecDepth 20000 in
theorem ggX8_pour_X8_tankAt : GoodIn wsX8_pour wsX8_tankAt := goodIn_r _ [14, 15, 8, 9, 5, 10, 38, 39, 40, 41, 42, 43, 44, 45, 46, 47, 48, 49, 50, 51, 52] (by decide +kernel) (by decide +kernel)
set_option maxRecDepth 20000 in
theorem gX8_pour_X8_tankAt : GoodIn wsX8_pour (wsV RX8 139 RX8 yX8_tankAt wsX8_tankAt) := goodIn_app (goodIn_of _ (by decide +kernel)) ggX8_pour_X8_tankAt
set_option maxRecDepth 20000 in
theorem ggX8_move_X8_tankAt : GoodIn wsX8_move wsX8_tankAt := goodIn_r _ [8, 9, 10, 11, 7, 12, 64, 65, 66, 67, 68, 69, 70, 71, 72, 73, 74, 75, 76, 77, 78] (by decide +kernel) (by decide +kernel)
set_option maxRecDepth 20000 in
theorem gX8_move_X8_tankAt : GoodIn wsX8_move (wsV RX8 139 RX8 yX8_tankAt wsX8_tankAt) := goodIn_app (goodIn_of _ (by decide +kernel)) ggX8_move_X8_tankAt
set_option maxRecDepth 20000 in
theorem ggX8_move_X8_isIn : GoodIn wsX8_move wsX8_isIn := goodIn_r _ [12] (by decide +kernel) (by decide +kernel)
set_option maxRecDepth 20000 in
theorem gX8_move_X8_isIn : GoodIn wsX8_move (va_wsS RX8 85 yX8_isIn wsX8_isIn) := goodIn_app (goodIn_of _ (by decide +kernel)) ggX8_move_X8_isIn
set_option maxRecDepth 20000 in
theorem ggX8_warm_X8_tankAt : GoodIn wsX8_warm wsX8_tankAt := goodIn_r _ [7, 8, 9, 10, 6, 11, 17, 18, 19, 20, 21, 22, 23, 24, 25, 26, 27, 28, 29, 30, 31] (by decide +kernel) (by decide +kernel)
set_option maxRecDepth 20000 in
theorem gX8_warm_X8_tankAt : GoodIn wsX8_warm (wsV RX8 139 RX8 yX8_tankAt wsX8_tankAt) := goodIn_app (goodIn_of _ (by decide +kernel)) ggX8_warm_X8_tankAt
set_option maxRecDepth 20000 in
theorem ggX8_jar_X8_tankAt : GoodIn wsX8_jar wsX8_tankAt := goodIn_r _ [14, 15, 16, 17, 13, 18, 73, 74, 75, 76, 77, 78, 79, 80, 81, 82, 83, 84, 85, 86, 87] (by decide +kernel) (by decide +kernel)
set_option maxRecDepth 20000 in
theorem gX8_jar_X8_tankAt : GoodIn wsX8_jar (wsV RX8 139 RX8 yX8_tankAt wsX8_tankAt) := goodIn_app (goodIn_of _ (by decide +kernel)) ggX8_jar_X8_tankAt
set_option maxRecDepth 20000 in
theorem ggX8_jar_X8_isIn : GoodIn wsX8_jar wsX8_isIn := goodIn_r _ [18] (by decide +kernel) (by decide +kernel)
set_option maxRecDepth 20000 in
theorem gX8_jar_X8_isIn : GoodIn wsX8_jar (va_wsS RX8 85 yX8_isIn wsX8_isIn) := goodIn_app (goodIn_of _ (by decide +kernel)) ggX8_jar_X8_isIn
set_option maxRecDepth 20000 in
theorem ggX8_spill_X8_tankAt : GoodIn wsX8_spill wsX8_tankAt := goodIn_r _ [7, 8, 9, 10, 6, 11, 50, 51, 52, 53, 54, 55, 56, 57, 58, 59, 60, 61, 62, 63, 64] (by decide +kernel) (by decide +kernel)
set_option maxRecDepth 20000 in
theorem gX8_spill_X8_tankAt : GoodIn wsX8_spill (wsV RX8 139 RX8 yX8_tankAt wsX8_tankAt) := goodIn_app (goodIn_of _ (by decide +kernel)) ggX8_spill_X8_tankAt
set_option maxRecDepth 20000 in
theorem ggX8_spill_X8_isIn : GoodIn wsX8_spill wsX8_isIn := goodIn_r _ [11] (by decide +kernel) (by decide +kernel)
set_option maxRecDepth 20000 in
theorem gX8_spill_X8_isIn : GoodIn wsX8_spill (va_wsS RX8 85 yX8_isIn wsX8_isIn) := goodIn_app (goodIn_of _ (by decide +kernel)) ggX8_spill_X8_isIn
set_option maxRecDepth 20000 in
theorem ggX8_vesselAt_X8_isIn : GoodIn wsX8_vesselAt wsX8_isIn := goodIn_r _ [10] (by decide +kernel) (by decide +kernel)
set_option maxRecDepth 20000 in
theorem gX8_vesselAt_X8_isIn : GoodIn wsX8_vesselAt (va_wsS RX8 85 yX8_isIn wsX8_isIn) := goodIn_app (goodIn_of _ (by decide +kernel)) ggX8_vesselAt_X8_isIn
set_option maxRecDepth 20000 in
theorem ggX8_vesselAt_X8_tankAt : GoodIn wsX8_vesselAt wsX8_tankAt := goodIn_r _ [6, 7, 8, 9, 5, 10, 11, 12, 13, 14, 15, 16, 17, 18, 19, 20, 21, 22, 23, 24, 25] (by decide +kernel) (by decide +kernel)
set_option maxRecDepth 20000 in
theorem gX8_vesselAt_X8_tankAt : GoodIn wsX8_vesselAt (wsV RX8 139 RX8 yX8_tankAt wsX8_tankAt) := goodIn_app (goodIn_of _ (by decide +kernel)) ggX8_vesselAt_X8_tankAt
set_option maxRecDepth 20000 in
theorem ggX8_holds_X8_vesselAt : GoodIn wsX8_holds wsX8_vesselAt := goodIn_r _ [9, 10, 11, 12, 13, 8, 14, 15, 16, 17, 18, 30, 31, 32, 33, 34, 35, 36, 37, 38, 39, 40, 41, 42, 43, 44] (by decide +kernel) (by decide +kernel)
set_option maxRecDepth 20000 in
theorem gX8_holds_X8_vesselAt : GoodIn wsX8_holds (wsV RX8 173 RX8 yX8_vesselAt wsX8_vesselAt) := goodIn_app (goodIn_of _ (by decide +kernel)) ggX8_holds_X8_vesselAt
set_option maxRecDepth 20000 in
theorem ggX8_holds_X7_lotsInIt : GoodIn wsX8_holds wsX7_lotsInIt := goodIn_r _ [23, 24, 25, 26, 27, 28, 29] (by decide +kernel) (by decide +kernel)
set_option maxRecDepth 20000 in
theorem gX8_holds_X7_lotsInIt : GoodIn wsX8_holds (wsV RX8 177 RX7 yX7_lotsInIt wsX7_lotsInIt) := goodIn_app (goodIn_of _ (by decide +kernel)) ggX8_holds_X7_lotsInIt
set_option maxRecDepth 20000 in
theorem ggX8_part_X8_vesselAt : GoodIn wsX8_part wsX8_vesselAt := goodIn_r _ [5, 6, 7, 8, 9, 4, 10, 11, 12, 13, 14, 26, 27, 28, 29, 30, 31, 32, 33, 34, 35, 36, 37, 38, 39, 40] (by decide +kernel) (by decide +kernel)
set_option maxRecDepth 20000 in
theorem gX8_part_X8_vesselAt : GoodIn wsX8_part (wsV RX8 173 RX8 yX8_vesselAt wsX8_vesselAt) := goodIn_app (goodIn_of _ (by decide +kernel)) ggX8_part_X8_vesselAt
set_option maxRecDepth 20000 in
theorem ggX8_part_X8_lotAt : GoodIn wsX8_part wsX8_lotAt := goodIn_r _ [18, 19, 12, 13, 4, 14, 26, 27, 28, 29, 30, 31, 32, 33, 34, 35, 36, 37, 38, 39, 40] (by decide +kernel) (by decide +kernel)
set_option maxRecDepth 20000 in
theorem gX8_part_X8_lotAt : GoodIn wsX8_part (wsV RX8 96 RX8 yX8_lotAt wsX8_lotAt) := goodIn_app (goodIn_of _ (by decide +kernel)) ggX8_part_X8_lotAt
set_option maxRecDepth 20000 in
theorem ggX8_isPollenLow_X8_isIn : GoodIn wsX8_isPollenLow wsX8_isIn := goodIn_r _ [4] (by decide +kernel) (by decide +kernel)
set_option maxRecDepth 20000 in
theorem gX8_isPollenLow_X8_isIn : GoodIn wsX8_isPollenLow (va_wsS RX8 85 yX8_isIn wsX8_isIn) := goodIn_app (goodIn_of _ (by decide +kernel)) ggX8_isPollenLow_X8_isIn
set_option maxRecDepth 20000 in
theorem ggX8_isPollenHigh_X8_isIn : GoodIn wsX8_isPollenHigh wsX8_isIn := goodIn_r _ [4] (by decide +kernel) (by decide +kernel)
set_option maxRecDepth 20000 in
theorem gX8_isPollenHigh_X8_isIn : GoodIn wsX8_isPollenHigh (va_wsS RX8 85 yX8_isIn wsX8_isIn) := goodIn_app (goodIn_of _ (by decide +kernel)) ggX8_isPollenHigh_X8_isIn
set_option maxRecDepth 20000 in
theorem ggX8_isMeasure_X8_isIn : GoodIn wsX8_isMeasure wsX8_isIn := goodIn_r _ [4] (by decide +kernel) (by decide +kernel)
set_option maxRecDepth 20000 in
theorem gX8_isMeasure_X8_isIn : GoodIn wsX8_isMeasure (va_wsS RX8 85 yX8_isIn wsX8_isIn) := goodIn_app (goodIn_of _ (by decide +kernel)) ggX8_isMeasure_X8_isIn
set_option maxRecDepth 20000 in
theorem ggX8_isMeasure_X8_isPollenLow : GoodIn wsX8_isMeasure wsX8_isPollenLow := goodIn_r _ [7, 1, 2, 3, 4] (by decide +kernel) (by decide +kernel)
set_option maxRecDepth 20000 in
theorem gX8_isMeasure_X8_isPollenLow : GoodIn wsX8_isMeasure (va_wsS RX8 279 yX8_isPollenLow wsX8_isPollenLow) := goodIn_app (goodIn_of _ (by decide +kernel)) ggX8_isMeasure_X8_isPollenLow
set_option maxRecDepth 20000 in
theorem ggX8_isMeasure_X8_isPollenHigh : GoodIn wsX8_isMeasure wsX8_isPollenHigh := goodIn_r _ [10, 1, 2, 3, 4] (by decide +kernel) (by decide +kernel)
set_option maxRecDepth 20000 in
theorem gX8_isMeasure_X8_isPollenHigh : GoodIn wsX8_isMeasure (va_wsS RX8 282 yX8_isPollenHigh wsX8_isPollenHigh) := goodIn_app (goodIn_of _ (by decide +kernel)) ggX8_isMeasure_X8_isPollenHigh
set_option maxRecDepth 20000 in
theorem ggX8_measure_X8_vesselAt : GoodIn wsX8_measure wsX8_vesselAt := goodIn_r _ [5, 6, 7, 8, 9, 4, 10, 11, 12, 13, 14, 53, 54, 55, 56, 57, 58, 59, 60, 61, 62, 63, 64, 65, 66, 67] (by decide +kernel) (by decide +kernel)
set_option maxRecDepth 20000 in
theorem gX8_measure_X8_vesselAt : GoodIn wsX8_measure (wsV RX8 173 RX8 yX8_vesselAt wsX8_vesselAt) := goodIn_app (goodIn_of _ (by decide +kernel)) ggX8_measure_X8_vesselAt
set_option maxRecDepth 20000 in
theorem ggX8_measure_X8_isMeasure : GoodIn wsX8_measure wsX8_isMeasure := goodIn_r _ [17, 12, 13, 4, 14, 18, 19, 20, 21, 22, 23] (by decide +kernel) (by decide +kernel)
set_option maxRecDepth 20000 in
theorem gX8_measure_X8_isMeasure : GoodIn wsX8_measure (va_wsS RX8 185 yX8_isMeasure wsX8_isMeasure) := goodIn_app (goodIn_of _ (by decide +kernel)) ggX8_measure_X8_isMeasure
set_option maxRecDepth 20000 in
theorem ggX8_measure_X8_told : GoodIn wsX8_measure wsX8_told := goodIn_r _ [27, 28, 29, 30, 31, 32, 33, 4, 34, 35, 36, 37, 38, 39, 40, 41, 42, 43, 44, 45, 46, 47, 48, 49, 50, 51, 52, 19, 20, 12, 13, 14, 22, 23, 68, 69, 70, 71, 72, 53, 54, 55, 56, 57, 58, 59, 60, 61, 62, 63, 64, 65, 66, 67, 73, 74, 75, 76, 77, 78, 79, 80, 81, 82] (by decide +kernel) (by decide +kernel)
set_option maxRecDepth 20000 in
theorem gX8_measure_X8_told : GoodIn wsX8_measure (wsV RX8 188 RX8 yX8_told wsX8_told) := goodIn_app (goodIn_of _ (by decide +kernel)) ggX8_measure_X8_told
set_option maxRecDepth 20000 in
theorem ggX8_shut_X8_ruleAt : GoodIn wsX8_shut wsX8_ruleAt := goodIn_r _ [8, 9, 10, 11, 7, 12, 18, 19, 20, 21, 22, 23, 24, 25, 26, 27, 28, 29, 30, 31, 32] (by decide +kernel) (by decide +kernel)
set_option maxRecDepth 20000 in
theorem gX8_shut_X8_ruleAt : GoodIn wsX8_shut (wsV RX8 219 RX8 yX8_ruleAt wsX8_ruleAt) := goodIn_app (goodIn_of _ (by decide +kernel)) ggX8_shut_X8_ruleAt
set_option maxRecDepth 20000 in
theorem ggX8_says_X8_ruleAt : GoodIn wsX8_says wsX8_ruleAt := goodIn_r _ [6, 7, 8, 9, 5, 10, 71, 72, 73, 74, 75, 76, 77, 78, 79, 80, 81, 82, 83, 84, 85] (by decide +kernel) (by decide +kernel)
set_option maxRecDepth 20000 in
theorem gX8_says_X8_ruleAt : GoodIn wsX8_says (wsV RX8 219 RX8 yX8_ruleAt wsX8_ruleAt) := goodIn_app (goodIn_of _ (by decide +kernel)) ggX8_says_X8_ruleAt
set_option maxRecDepth 20000 in
theorem ggX8_says_X8_vesselAt : GoodIn wsX8_says wsX8_vesselAt := goodIn_r _ [14, 15, 16, 17, 18, 5, 19, 20, 8, 9, 10, 71, 72, 73, 74, 75, 76, 77, 78, 79, 80, 81, 82, 83, 84, 85] (by decide +kernel) (by decide +kernel)
set_option maxRecDepth 20000 in
theorem gX8_says_X8_vesselAt : GoodIn wsX8_says (wsV RX8 173 RX8 yX8_vesselAt wsX8_vesselAt) := goodIn_app (goodIn_of _ (by decide +kernel)) ggX8_says_X8_vesselAt
set_option maxRecDepth 20000 in
theorem ggX8_name_X8_vesselAt : GoodIn wsX8_name wsX8_vesselAt := goodIn_r _ [7, 8, 9, 10, 11, 6, 12, 13, 14, 15, 16, 75, 76, 77, 78, 79, 80, 81, 82, 83, 84, 85, 86, 87, 88, 89] (by decide +kernel) (by decide +kernel)
set_option maxRecDepth 20000 in
theorem gX8_name_X8_vesselAt : GoodIn wsX8_name (wsV RX8 173 RX8 yX8_vesselAt wsX8_vesselAt) := goodIn_app (goodIn_of _ (by decide +kernel)) ggX8_name_X8_vesselAt
set_option maxRecDepth 20000 in
theorem ggX8_parts_X8_tankAt : GoodIn wsX8_parts wsX8_tankAt := goodIn_r _ [8, 9, 10, 11, 7, 12, 13, 14, 15, 16, 17, 18, 19, 20, 21, 22, 23, 24, 25, 26, 27] (by decide +kernel) (by decide +kernel)
set_option maxRecDepth 20000 in
theorem gX8_parts_X8_tankAt : GoodIn wsX8_parts (wsV RX8 139 RX8 yX8_tankAt wsX8_tankAt) := goodIn_app (goodIn_of _ (by decide +kernel)) ggX8_parts_X8_tankAt
set_option maxRecDepth 20000 in
theorem ggX8_found_X8_isIn : GoodIn wsX8_found wsX8_isIn := goodIn_r _ [6] (by decide +kernel) (by decide +kernel)
set_option maxRecDepth 20000 in
theorem gX8_found_X8_isIn : GoodIn wsX8_found (va_wsS RX8 85 yX8_isIn wsX8_isIn) := goodIn_app (goodIn_of _ (by decide +kernel)) ggX8_found_X8_isIn
theorem i_m1 {n : Int32} (a : ¬ n < 0) : -1 < n := by
  rw [i_lt] at a
  rw [i_lt]
  have h0 : (0 : Int32).toInt = 0 := by decide
  have h1 : (-1 : Int32).toInt = -1 := by decide
  rw [h0] at a; rw [h1]
  omega
set_option maxHeartbeats 4000000 in
set_option maxRecDepth 100000 in
/-- lotsInIt of an empty vessel -/
theorem s_X7_lotsInIt (l : Launch) (D : va_G) (ws : va_W) (tys : List (ClassId × FieldType)) (v kv gr kg : Nat) (ci : ClassId) (ti : Nat) {vs : List Value} (ev : ws[kv]? = some (v, .inr (7, .ref gr :: vs))) (eg : ws[kg]? = some (gr, .inl (ci, 40, .inl (fun _ => 0)))) (ut : tys[ti]? = some (ci, .int)) : Met l yX7_lotsInIt wsX7_lotsInIt ({ frames := 0, cells := 0, slots := 0, locals := 0 }) (va_Pc [.ref v] (fun U => va_P D vwCl ws U.heap ∧ va_K D vwCl tys U)) (vp_Si (fun r => r = 0)) 0 0 (fun _ => False) := by
  refine Met.ofW (cc := cX7_lotsInIt) (maxL := 3) (ret := (some .int)) (by decide) rfl ?_
  intro p e s m args below meth c s₁ B hml hv
  obtain ⟨rfl, hP, hK⟩ := hv
  have hx := B.exec
  have hb := B.bytes
  have hr := B.returns
  have hts := atoms_spec (ws := wsX7_lotsInIt) B.pre
  have hown : s.vm.findClass RX7 = some m.cls := findClass_of_methodNamed B.named
  have hlocks := B.notSynchronized
  have hin7 : ∀ w ∈ u_ws RX7 TX7 5, w ∈ wsX7_lotsInIt := (fun _ h9 => List.mem_cons_of_mem _ ((List.mem_append_right _ h9)))
  have hl := lv_entry ([.ref v]) (n := 3) (Nat.le_of_ble_eq_true rfl)
  rw [lg_entry_eq]
  generalize (lg_sl ([.ref v]) ++ List.replicate (3 - (lg_sl ([.ref v])).length) Slot.unset).toArray = ls at hl ⊢
  have hl : lv_has ls 3 [(0, .ref v)] := hl
  refine lv_iconst (v := 0) hx hb dX7_lotsInIt_0 (by decide) ?_
  refine lv_istore_n (lv' := [(1, .int 0), (0, .ref v)]) hx hb dX7_lotsInIt_1 rfl hl (by decide) rfl (fun ls hl => ?_)
  refine lv_iconst (v := 0) hx hb dX7_lotsInIt_2 (by decide) ?_
  refine lv_istore_n (lv' := [(2, .int 0), (1, .int 0), (0, .ref v)]) hx hb dX7_lotsInIt_3 rfl hl (by decide) rfl (fun ls hl => ?_)
  suffices hh : ∀ (n i : Nat), i ≤ 40 → 41 ≤ i + n → ∀ ls : Array Slot, lv_has ls 3 [(2, .int (nI i)), (1, .int 0), (0, .ref v)] → W p l e (headSpec wsX7_lotsInIt { frames := 0, cells := 0, slots := 0, locals := 0 }).room s m #[Value.ref v] below meth c s.heap [] 0 0 (MQ below (vp_Si (fun r => r = 0)) #[Value.ref v] s 0 0 (fun _ => False)) (F0 m 4 ls []) from hh 41 0 (by omega) (by omega) ls hl
  clear hl
  clear ls
  intro n
  induction n with
  | zero => intro i h1 h2; exact absurd h2 (by omega)
  | succ n ih =>
    intro i hi hn ls hl
    refine lv_iload_n hx hb dX7_lotsInIt_4 rfl (lv_at hl 0 rfl) ?_
    refine lv_aload_n hx hb dX7_lotsInIt_5 rfl (lv_at hl 2 rfl) ?_
    refine va_get (D := D) (ci := 7) (v := .ref gr) (C := RX7) (T := TX7) (N := 5) hx hb hts hin7 hown hK hP kv ev rfl 0 (by decide) (hts (.fieldLink RX7 9 "HoneyHouse$Vessel" "grams" "[I") (List.mem_of_getElem? (i := 1) rfl)) (fun _ h9 => h9) rfl dX7_lotsInIt_6 ?_
    refine va_alen (v := 40) hx hb hK hP kg ti eg ut rfl dX7_lotsInIt_9 ?_
    refine lv_icmp_ge (tgt := 31) hx hb dX7_lotsInIt_10 (by decide) (fun c_1 => ?_) (fun c_1 => ?_)
    · refine lv_iload_n hx hb dX7_lotsInIt_31 rfl (lv_at hl 1 rfl) ?_
      exact W.iret (v := 0) hx hb hr (fun t ht hW => ⟨0, rfl, rfl, ht⟩) (fun _ h9 => by cases h9) dX7_lotsInIt_32
    have hlt : i < 40 := by
      rcases Nat.lt_or_ge i 40 with q9 | q9
      · exact q9
      · exact absurd (show (40 : Int32) ≤ nI i from nI_le q9 (by omega)) c_1
    refine lv_aload_n hx hb dX7_lotsInIt_13 rfl (lv_at hl 2 rfl) ?_
    refine va_get (D := D) (ci := 7) (v := .ref gr) (C := RX7) (T := TX7) (N := 5) hx hb hts hin7 hown hK hP kv ev rfl 0 (by decide) (hts (.fieldLink RX7 9 "HoneyHouse$Vessel" "grams" "[I") (List.mem_of_getElem? (i := 1) rfl)) (fun _ h9 => h9) rfl dX7_lotsInIt_14 ?_
    refine lv_iload_n hx hb dX7_lotsInIt_17 rfl (lv_at hl 0 rfl) ?_
    refine va_iald (f := fun _ => 0) (n := 40) hx hb hK hP kg ti eg ut (vp_in_nI hlt (by omega)) dX7_lotsInIt_18 ?_
    refine tp_i (y := 0) (rfl) ?_
    refine lv_if_le (tgt := 25) hx hb dX7_lotsInIt_19 (by decide) (fun c_2 => ?_) (fun c_2 => absurd (by decide) c_2)
    refine lv_iinc (v := nI (i + 1)) (lv' := [(2, .int (nI (i + 1))), (1, .int 0), (0, .ref v)]) hx hb dX7_lotsInIt_25 hl (k := 0) rfl (nI_1 i) (by decide) rfl (fun ls hl => ?_)
    refine lv_goto (tgt := 4) hx hb dX7_lotsInIt_28 (by decide) ?_
    exact ih (i + 1) (by omega) (by omega) ls (lv_sub hl [0, 1, 2] rfl)
set_option maxHeartbeats 4000000 in
set_option maxRecDepth 100000 in
theorem s_X8_pollen (l : Launch) (D : va_G) (ws : va_W) (tys : List (ClassId × FieldType)) (h0 : Nat) (X : XF ws tys h0) (a1 a2 a3 a4 : Int32) : Met l yX8_pollen wsX8_pollen ({ frames := 2, cells := 0, slots := 0, locals := 43 }) (va_Pc [.ref h0, .int a1, .int a2, .int a3, .int a4] (fun U => va_P D vwCl ws U.heap ∧ va_K D vwCl tys U)) (vp_Si (fun r => r = 0)) 0 0 (fun _ => False) := by
  refine Met.ofW (cc := cX8_pollen) (maxL := 6) (ret := (some .boolean)) (by decide) rfl ?_
  intro p e s m args below meth c s₁ B hml hv
  obtain ⟨rfl, hP, hK⟩ := hv
  have hx := B.exec
  have hb := B.bytes
  have hr := B.returns
  have hts := atoms_spec (ws := wsX8_pollen) B.pre
  have hown : s.vm.findClass RX8 = some m.cls := findClass_of_methodNamed B.named
  have hlocks := B.notSynchronized
  have hl := lv_entry ([.ref h0, .int a1, .int a2, .int a3, .int a4]) (n := 6) (Nat.le_of_ble_eq_true rfl)
  rw [lg_entry_eq]
  generalize (lg_sl ([.ref h0, .int a1, .int a2, .int a3, .int a4]) ++ List.replicate (6 - (lg_sl ([.ref h0, .int a1, .int a2, .int a3, .int a4])).length) Slot.unset).toArray = ls at hl ⊢
  have hl : lv_has ls 6 [(0, .ref h0), (1, .int a1), (2, .int a2), (3, .int a3), (4, .int a4)] := hl
  have X0 := X
  obtain ⟨k0, la, ta, ba, ra, sn, rd, dr, bl, vd, fb, k1, k2, k3, k4, k5, k6, c1, c2, c3, c4, t1, t2, t3, t4, g, bs, rs, e0, e1, u1, e2, u2, e3, u3, e4, u4, e5, fb1, e6, fr3, fr4, hT⟩ := X
  refine lv_aload_n hx hb dX8_pollen_0 rfl (lv_at hl 0 rfl) ?_
  refine lv_iload_n hx hb dX8_pollen_1 rfl (lv_at hl 1 rfl) ?_
  refine va_csq (W.runV (As := [.int a1]) (rest := []) ⟨hx, hb, hml, hown, hts⟩ (s_X8_lotAt l D ws tys h0 k0 _ la k1 c1 (fun _ => none) t1 a1 e0 rfl e1 u1) (cwV 1 hts gX8_pollen_X8_lotAt rfl rfl rfl (by decide +kernel) ⟨Nat.le_of_ble_eq_true rfl, Nat.le_of_ble_eq_true rfl⟩) ⟨fun a U g mk q => ⟨q.1, q.2.1, va_K.moved (u := U) (U := U.calling g mk a) (Vm.Alike.refl U.vm) q.2.2⟩, va_recv hK hP (ci := 8) (q0 := k0) rfl e0, fun U hU hW => ⟨rfl, by rw [hU]; exact hP, va_K.moved hW.alike hK⟩⟩ rfl rfl hl.1 rfl (lv_room (Nat.le_of_ble_eq_true rfl)) dX8_pollen_2 ⟨Nat.le_of_ble_eq_true rfl, Nat.le_of_ble_eq_true rfl⟩) (fun r_1 k_2 => ?_)
  obtain rfl : r_1 = none := by rcases k_2 with ⟨z_3, -⟩ | ⟨-, -, z_3⟩ <;> exact z_3
  refine tp_v (y := .null) rfl ?_
  refine lv_astoreN (lv' := [(5, .null), (0, .ref h0), (1, .int a1), (2, .int a2), (3, .int a3), (4, .int a4)]) hx hb dX8_pollen_5 hl (by decide) rfl (fun ls hl => ?_)
  refine lv_aloadN hx hb dX8_pollen_7 (lv_at hl 0 rfl) ?_
  refine lv_ifnullN (tgt := 21) hx hb dX8_pollen_9 (by decide) ?_
  refine lv_iconst (v := 0) hx hb dX8_pollen_21 (by decide) ?_
  exact W.zret (v := 0) hx hb hr rfl (fun t ht hW => ⟨0, rfl, rfl, ht⟩) (fun _ h9 => by cases h9) dX8_pollen_22
set_option maxHeartbeats 4000000 in
set_option maxRecDepth 100000 in
theorem s_X8_test (l : Launch) (D : va_G) (ws : va_W) (tys : List (ClassId × FieldType)) (h0 : Nat) (X : XF ws tys h0) (a1 a2 : Int32) : Met l yX8_test wsX8_test ({ frames := 2, cells := 0, slots := 0, locals := 43 }) (va_Pc [.ref h0, .int a1, .int a2] (fun U => va_P D vwCl ws U.heap ∧ va_K D vwCl tys U)) (vp_Si (fun r => r = (-1000000000))) 0 0 (fun _ => False) := by
  refine Met.ofW (cc := cX8_test) (maxL := 5) (ret := (some .int)) (by decide) rfl ?_
  intro p e s m args below meth c s₁ B hml hv
  obtain ⟨rfl, hP, hK⟩ := hv
  have hx := B.exec
  have hb := B.bytes
  have hr := B.returns
  have hts := atoms_spec (ws := wsX8_test) B.pre
  have hown : s.vm.findClass RX8 = some m.cls := findClass_of_methodNamed B.named
  have hlocks := B.notSynchronized
  have hl := lv_entry ([.ref h0, .int a1, .int a2]) (n := 5) (Nat.le_of_ble_eq_true rfl)
  rw [lg_entry_eq]
  generalize (lg_sl ([.ref h0, .int a1, .int a2]) ++ List.replicate (5 - (lg_sl ([.ref h0, .int a1, .int a2])).length) Slot.unset).toArray = ls at hl ⊢
  have hl : lv_has ls 5 [(0, .ref h0), (1, .int a1), (2, .int a2)] := hl
  have X0 := X
  obtain ⟨k0, la, ta, ba, ra, sn, rd, dr, bl, vd, fb, k1, k2, k3, k4, k5, k6, c1, c2, c3, c4, t1, t2, t3, t4, g, bs, rs, e0, e1, u1, e2, u2, e3, u3, e4, u4, e5, fb1, e6, fr3, fr4, hT⟩ := X
  refine lv_aload_n hx hb dX8_test_0 rfl (lv_at hl 0 rfl) ?_
  refine lv_iload_n hx hb dX8_test_1 rfl (lv_at hl 1 rfl) ?_
  refine va_csq (W.runV (As := [.int a1]) (rest := []) ⟨hx, hb, hml, hown, hts⟩ (s_X8_lotAt l D ws tys h0 k0 _ la k1 c1 (fun _ => none) t1 a1 e0 rfl e1 u1) (cwV 1 hts gX8_test_X8_lotAt rfl rfl rfl (by decide +kernel) ⟨Nat.le_of_ble_eq_true rfl, Nat.le_of_ble_eq_true rfl⟩) ⟨fun a U g mk q => ⟨q.1, q.2.1, va_K.moved (u := U) (U := U.calling g mk a) (Vm.Alike.refl U.vm) q.2.2⟩, va_recv hK hP (ci := 8) (q0 := k0) rfl e0, fun U hU hW => ⟨rfl, by rw [hU]; exact hP, va_K.moved hW.alike hK⟩⟩ rfl rfl hl.1 rfl (lv_room (Nat.le_of_ble_eq_true rfl)) dX8_test_2 ⟨Nat.le_of_ble_eq_true rfl, Nat.le_of_ble_eq_true rfl⟩) (fun r_1 k_2 => ?_)
  obtain rfl : r_1 = none := by rcases k_2 with ⟨z_3, -⟩ | ⟨-, -, z_3⟩ <;> exact z_3
  refine tp_v (y := .null) rfl ?_
  refine lv_astore_nN (lv' := [(3, .null), (0, .ref h0), (1, .int a1), (2, .int a2)]) hx hb dX8_test_5 rfl hl (by decide) rfl (fun ls hl => ?_)
  refine lv_aload_nN hx hb dX8_test_6 rfl (lv_at hl 0 rfl) ?_
  refine lv_ifnullN (tgt := 22) hx hb dX8_test_7 (by decide) ?_
  refine lv_ldc hx hb hown (hts (.constant RX8 110 (-1000000000)) (List.mem_of_getElem? (i := 1) rfl)) dX8_test_22 ?_
  exact W.iret (v := (-1000000000)) hx hb hr (fun t ht hW => ⟨(-1000000000), rfl, rfl, ht⟩) (fun _ h9 => by cases h9) dX8_test_24
set_option maxHeartbeats 4000000 in
set_option maxRecDepth 100000 in
theorem s_X8_of (l : Launch) (D : va_G) (ws : va_W) (tys : List (ClassId × FieldType)) (h0 : Nat) (X : XF ws tys h0) (a1 a2 : Int32) : Met l yX8_of wsX8_of ({ frames := 2, cells := 0, slots := 0, locals := 43 }) (va_Pc [.ref h0, .int a1, .int a2] (fun U => va_P D vwCl ws U.heap ∧ va_K D vwCl tys U)) (vp_Si (fun r => r = (-1))) 0 0 (fun _ => False) := by
  refine Met.ofW (cc := cX8_of) (maxL := 4) (ret := (some .int)) (by decide) rfl ?_
  intro p e s m args below meth c s₁ B hml hv
  obtain ⟨rfl, hP, hK⟩ := hv
  have hx := B.exec
  have hb := B.bytes
  have hr := B.returns
  have hts := atoms_spec (ws := wsX8_of) B.pre
  have hown : s.vm.findClass RX8 = some m.cls := findClass_of_methodNamed B.named
  have hlocks := B.notSynchronized
  have hl := lv_entry ([.ref h0, .int a1, .int a2]) (n := 4) (Nat.le_of_ble_eq_true rfl)
  rw [lg_entry_eq]
  generalize (lg_sl ([.ref h0, .int a1, .int a2]) ++ List.replicate (4 - (lg_sl ([.ref h0, .int a1, .int a2])).length) Slot.unset).toArray = ls at hl ⊢
  have hl : lv_has ls 4 [(0, .ref h0), (1, .int a1), (2, .int a2)] := hl
  have X0 := X
  obtain ⟨k0, la, ta, ba, ra, sn, rd, dr, bl, vd, fb, k1, k2, k3, k4, k5, k6, c1, c2, c3, c4, t1, t2, t3, t4, g, bs, rs, e0, e1, u1, e2, u2, e3, u3, e4, u4, e5, fb1, e6, fr3, fr4, hT⟩ := X
  refine lv_aload_n hx hb dX8_of_0 rfl (lv_at hl 0 rfl) ?_
  refine lv_iload_n hx hb dX8_of_1 rfl (lv_at hl 1 rfl) ?_
  refine va_csq (W.runV (As := [.int a1]) (rest := []) ⟨hx, hb, hml, hown, hts⟩ (s_X8_lotAt l D ws tys h0 k0 _ la k1 c1 (fun _ => none) t1 a1 e0 rfl e1 u1) (cwV 1 hts gX8_of_X8_lotAt rfl rfl rfl (by decide +kernel) ⟨Nat.le_of_ble_eq_true rfl, Nat.le_of_ble_eq_true rfl⟩) ⟨fun a U g mk q => ⟨q.1, q.2.1, va_K.moved (u := U) (U := U.calling g mk a) (Vm.Alike.refl U.vm) q.2.2⟩, va_recv hK hP (ci := 8) (q0 := k0) rfl e0, fun U hU hW => ⟨rfl, by rw [hU]; exact hP, va_K.moved hW.alike hK⟩⟩ rfl rfl hl.1 rfl (lv_room (Nat.le_of_ble_eq_true rfl)) dX8_of_2 ⟨Nat.le_of_ble_eq_true rfl, Nat.le_of_ble_eq_true rfl⟩) (fun r_1 k_2 => ?_)
  obtain rfl : r_1 = none := by rcases k_2 with ⟨z_3, -⟩ | ⟨-, -, z_3⟩ <;> exact z_3
  refine tp_v (y := .null) rfl ?_
  refine lv_astore_nN (lv' := [(3, .null), (0, .ref h0), (1, .int a1), (2, .int a2)]) hx hb dX8_of_5 rfl hl (by decide) rfl (fun ls hl => ?_)
  refine lv_aload_nN hx hb dX8_of_6 rfl (lv_at hl 0 rfl) ?_
  refine lv_ifnonnullN hx hb dX8_of_7 ?_
  refine lv_iconst (v := (-1)) hx hb dX8_of_10 (by decide) ?_
  exact W.iret (v := (-1)) hx hb hr (fun t ht hW => ⟨(-1), rfl, rfl, ht⟩) (fun _ h9 => by cases h9) dX8_of_11
set_option maxHeartbeats 4000000 in
set_option maxRecDepth 100000 in
theorem s_X8_span (l : Launch) (D : va_G) (ws : va_W) (tys : List (ClassId × FieldType)) (h0 : Nat) (X : XF ws tys h0) (a1 a2 a3 : Int32) : Met l yX8_span wsX8_span ({ frames := 2, cells := 0, slots := 0, locals := 43 }) (va_Pc [.ref h0, .int a1, .int a2, .int a3] (fun U => va_P D vwCl ws U.heap ∧ va_K D vwCl tys U)) (vp_Si (fun r => r = (-1))) 0 0 (fun _ => False) := by
  refine Met.ofW (cc := cX8_span) (maxL := 5) (ret := (some .int)) (by decide) rfl ?_
  intro p e s m args below meth c s₁ B hml hv
  obtain ⟨rfl, hP, hK⟩ := hv
  have hx := B.exec
  have hb := B.bytes
  have hr := B.returns
  have hts := atoms_spec (ws := wsX8_span) B.pre
  have hown : s.vm.findClass RX8 = some m.cls := findClass_of_methodNamed B.named
  have hlocks := B.notSynchronized
  have hl := lv_entry ([.ref h0, .int a1, .int a2, .int a3]) (n := 5) (Nat.le_of_ble_eq_true rfl)
  rw [lg_entry_eq]
  generalize (lg_sl ([.ref h0, .int a1, .int a2, .int a3]) ++ List.replicate (5 - (lg_sl ([.ref h0, .int a1, .int a2, .int a3])).length) Slot.unset).toArray = ls at hl ⊢
  have hl : lv_has ls 5 [(0, .ref h0), (1, .int a1), (2, .int a2), (3, .int a3)] := hl
  have X0 := X
  obtain ⟨k0, la, ta, ba, ra, sn, rd, dr, bl, vd, fb, k1, k2, k3, k4, k5, k6, c1, c2, c3, c4, t1, t2, t3, t4, g, bs, rs, e0, e1, u1, e2, u2, e3, u3, e4, u4, e5, fb1, e6, fr3, fr4, hT⟩ := X
  refine lv_aload_n hx hb dX8_span_0 rfl (lv_at hl 0 rfl) ?_
  refine lv_iload_n hx hb dX8_span_1 rfl (lv_at hl 1 rfl) ?_
  refine va_csq (W.runV (As := [.int a1]) (rest := []) ⟨hx, hb, hml, hown, hts⟩ (s_X8_lotAt l D ws tys h0 k0 _ la k1 c1 (fun _ => none) t1 a1 e0 rfl e1 u1) (cwV 1 hts gX8_span_X8_lotAt rfl rfl rfl (by decide +kernel) ⟨Nat.le_of_ble_eq_true rfl, Nat.le_of_ble_eq_true rfl⟩) ⟨fun a U g mk q => ⟨q.1, q.2.1, va_K.moved (u := U) (U := U.calling g mk a) (Vm.Alike.refl U.vm) q.2.2⟩, va_recv hK hP (ci := 8) (q0 := k0) rfl e0, fun U hU hW => ⟨rfl, by rw [hU]; exact hP, va_K.moved hW.alike hK⟩⟩ rfl rfl hl.1 rfl (lv_room (Nat.le_of_ble_eq_true rfl)) dX8_span_2 ⟨Nat.le_of_ble_eq_true rfl, Nat.le_of_ble_eq_true rfl⟩) (fun r_1 k_2 => ?_)
  obtain rfl : r_1 = none := by rcases k_2 with ⟨z_3, -⟩ | ⟨-, -, z_3⟩ <;> exact z_3
  refine tp_v (y := .null) rfl ?_
  refine lv_astoreN (lv' := [(4, .null), (0, .ref h0), (1, .int a1), (2, .int a2), (3, .int a3)]) hx hb dX8_span_5 hl (by decide) rfl (fun ls hl => ?_)
  refine lv_aloadN hx hb dX8_span_7 (lv_at hl 0 rfl) ?_
  refine lv_ifnullN (tgt := 30) hx hb dX8_span_9 (by decide) ?_
  refine lv_iconst (v := (-1)) hx hb dX8_span_30 (by decide) ?_
  exact W.iret (v := (-1)) hx hb hr (fun t ht hW => ⟨(-1), rfl, rfl, ht⟩) (fun _ h9 => by cases h9) dX8_span_31
set_option maxHeartbeats 4000000 in
set_option maxRecDepth 100000 in
theorem s_X8_trace (l : Launch) (D : va_G) (ws : va_W) (tys : List (ClassId × FieldType)) (h0 : Nat) (X : XF ws tys h0) (a1 : Int32) : Met l yX8_trace wsX8_trace ({ frames := 2, cells := 0, slots := 0, locals := 43 }) (va_Pc [.ref h0, .int a1] (fun U => va_P D vwCl ws U.heap ∧ va_K D vwCl tys U)) (vp_Si (fun r => r = (-1))) 0 0 (fun _ => False) := by
  refine Met.ofW (cc := cX8_trace) (maxL := 4) (ret := (some .int)) (by decide) rfl ?_
  intro p e s m args below meth c s₁ B hml hv
  obtain ⟨rfl, hP, hK⟩ := hv
  have hx := B.exec
  have hb := B.bytes
  have hr := B.returns
  have hts := atoms_spec (ws := wsX8_trace) B.pre
  have hown : s.vm.findClass RX8 = some m.cls := findClass_of_methodNamed B.named
  have hlocks := B.notSynchronized
  have hl := lv_entry ([.ref h0, .int a1]) (n := 4) (Nat.le_of_ble_eq_true rfl)
  rw [lg_entry_eq]
  generalize (lg_sl ([.ref h0, .int a1]) ++ List.replicate (4 - (lg_sl ([.ref h0, .int a1])).length) Slot.unset).toArray = ls at hl ⊢
  have hl : lv_has ls 4 [(0, .ref h0), (1, .int a1)] := hl
  have X0 := X
  obtain ⟨k0, la, ta, ba, ra, sn, rd, dr, bl, vd, fb, k1, k2, k3, k4, k5, k6, c1, c2, c3, c4, t1, t2, t3, t4, g, bs, rs, e0, e1, u1, e2, u2, e3, u3, e4, u4, e5, fb1, e6, fr3, fr4, hT⟩ := X
  refine lv_aload_n hx hb dX8_trace_0 rfl (lv_at hl 0 rfl) ?_
  refine lv_iload_n hx hb dX8_trace_1 rfl (lv_at hl 1 rfl) ?_
  refine va_csq (W.runV (As := [.int a1]) (rest := []) ⟨hx, hb, hml, hown, hts⟩ (s_X8_lotAt l D ws tys h0 k0 _ la k1 c1 (fun _ => none) t1 a1 e0 rfl e1 u1) (cwV 1 hts gX8_trace_X8_lotAt rfl rfl rfl (by decide +kernel) ⟨Nat.le_of_ble_eq_true rfl, Nat.le_of_ble_eq_true rfl⟩) ⟨fun a U g mk q => ⟨q.1, q.2.1, va_K.moved (u := U) (U := U.calling g mk a) (Vm.Alike.refl U.vm) q.2.2⟩, va_recv hK hP (ci := 8) (q0 := k0) rfl e0, fun U hU hW => ⟨rfl, by rw [hU]; exact hP, va_K.moved hW.alike hK⟩⟩ rfl rfl hl.1 rfl (lv_room (Nat.le_of_ble_eq_true rfl)) dX8_trace_2 ⟨Nat.le_of_ble_eq_true rfl, Nat.le_of_ble_eq_true rfl⟩) (fun r_1 k_2 => ?_)
  obtain rfl : r_1 = none := by rcases k_2 with ⟨z_3, -⟩ | ⟨-, -, z_3⟩ <;> exact z_3
  refine tp_v (y := .null) rfl ?_
  refine lv_ifnonnullN hx hb dX8_trace_5 ?_
  refine lv_iconst (v := (-1)) hx hb dX8_trace_8 (by decide) ?_
  exact W.iret (v := (-1)) hx hb hr (fun t ht hW => ⟨(-1), rfl, rfl, ht⟩) (fun _ h9 => by cases h9) dX8_trace_9
set_option maxHeartbeats 4000000 in
set_option maxRecDepth 100000 in
theorem s_X8_pour (l : Launch) (D : va_G) (ws : va_W) (tys : List (ClassId × FieldType)) (h0 : Nat) (X : XF ws tys h0) (a1 a2 a3 : Int32) : Met l yX8_pour wsX8_pour ({ frames := 2, cells := 0, slots := 0, locals := 43 }) (va_Pc [.ref h0, .int a1, .int a2, .int a3] (fun U => va_P D vwCl ws U.heap ∧ va_K D vwCl tys U)) (vp_Si (fun r => r = (-1))) 0 0 (fun _ => False) := by
  refine Met.ofW (cc := cX8_pour) (maxL := 6) (ret := (some .int)) (by decide) rfl ?_
  intro p e s m args below meth c s₁ B hml hv
  obtain ⟨rfl, hP, hK⟩ := hv
  have hx := B.exec
  have hb := B.bytes
  have hr := B.returns
  have hts := atoms_spec (ws := wsX8_pour) B.pre
  have hown : s.vm.findClass RX8 = some m.cls := findClass_of_methodNamed B.named
  have hlocks := B.notSynchronized
  have hl := lv_entry ([.ref h0, .int a1, .int a2, .int a3]) (n := 6) (Nat.le_of_ble_eq_true rfl)
  rw [lg_entry_eq]
  generalize (lg_sl ([.ref h0, .int a1, .int a2, .int a3]) ++ List.replicate (6 - (lg_sl ([.ref h0, .int a1, .int a2, .int a3])).length) Slot.unset).toArray = ls at hl ⊢
  have hl : lv_has ls 6 [(0, .ref h0), (1, .int a1), (2, .int a2), (3, .int a3)] := hl
  have X0 := X
  obtain ⟨k0, la, ta, ba, ra, sn, rd, dr, bl, vd, fb, k1, k2, k3, k4, k5, k6, c1, c2, c3, c4, t1, t2, t3, t4, g, bs, rs, e0, e1, u1, e2, u2, e3, u3, e4, u4, e5, fb1, e6, fr3, fr4, hT⟩ := X
  refine lv_aload_n hx hb dX8_pour_0 rfl (lv_at hl 0 rfl) ?_
  refine lv_iload_n hx hb dX8_pour_1 rfl (lv_at hl 1 rfl) ?_
  refine va_csq (W.runV (As := [.int a1]) (rest := []) ⟨hx, hb, hml, hown, hts⟩ (s_X8_lotAt l D ws tys h0 k0 _ la k1 c1 (fun _ => none) t1 a1 e0 rfl e1 u1) (cwV 1 hts gX8_pour_X8_lotAt rfl rfl rfl (by decide +kernel) ⟨Nat.le_of_ble_eq_true rfl, Nat.le_of_ble_eq_true rfl⟩) ⟨fun a U g mk q => ⟨q.1, q.2.1, va_K.moved (u := U) (U := U.calling g mk a) (Vm.Alike.refl U.vm) q.2.2⟩, va_recv hK hP (ci := 8) (q0 := k0) rfl e0, fun U hU hW => ⟨rfl, by rw [hU]; exact hP, va_K.moved hW.alike hK⟩⟩ rfl rfl hl.1 rfl (lv_room (Nat.le_of_ble_eq_true rfl)) dX8_pour_2 ⟨Nat.le_of_ble_eq_true rfl, Nat.le_of_ble_eq_true rfl⟩) (fun r_1 k_2 => ?_)
  obtain rfl : r_1 = none := by rcases k_2 with ⟨z_3, -⟩ | ⟨-, -, z_3⟩ <;> exact z_3
  refine tp_v (y := .null) rfl ?_
  refine lv_astoreN (lv' := [(4, .null), (0, .ref h0), (1, .int a1), (2, .int a2), (3, .int a3)]) hx hb dX8_pour_5 hl (by decide) rfl (fun ls hl => ?_)
  refine lv_aload_n hx hb dX8_pour_7 rfl (lv_at hl 1 rfl) ?_
  refine lv_iload_n hx hb dX8_pour_8 rfl (lv_at hl 3 rfl) ?_
  refine va_csq (W.runV (As := [.int a2]) (rest := []) ⟨hx, hb, hml, hown, hts⟩ (s_X8_tankAt l D ws tys h0 k0 _ ta k2 c2 g t2 a2 e0 rfl e2 u2) (cwV 1 hts gX8_pour_X8_tankAt rfl rfl rfl (by decide +kernel) ⟨Nat.le_of_ble_eq_true rfl, Nat.le_of_ble_eq_true rfl⟩) ⟨fun a U g mk q => ⟨q.1, q.2.1, va_K.moved (u := U) (U := U.calling g mk a) (Vm.Alike.refl U.vm) q.2.2⟩, va_recv hK hP (ci := 8) (q0 := k0) rfl e0, fun U hU hW => ⟨rfl, by rw [hU]; exact hP, va_K.moved hW.alike hK⟩⟩ rfl rfl hl.1 rfl (lv_room (Nat.le_of_ble_eq_true rfl)) dX8_pour_9 ⟨Nat.le_of_ble_eq_true rfl, Nat.le_of_ble_eq_true rfl⟩) (fun r_4 k_5 => ?_)
  rcases k_5 with ⟨rfl, a_6o⟩ | ⟨a_6, b_7, k_5⟩
  · refine tp_v (y := .null) rfl ?_
    refine lv_astoreN (lv' := [(5, .null), (4, .null), (0, .ref h0), (1, .int a1), (2, .int a2), (3, .int a3)]) hx hb dX8_pour_12 hl (by decide) rfl (fun ls hl => ?_)
    refine lv_aloadN hx hb dX8_pour_14 (lv_at hl 1 rfl) ?_
    refine lv_ifnullN (tgt := 24) hx hb dX8_pour_16 (by decide) ?_
    refine lv_iconst (v := (-1)) hx hb dX8_pour_24 (by decide) ?_
    exact W.iret (v := (-1)) hx hb hr (fun t ht hW => ⟨(-1), rfl, (by rcases a_6o with a_6o | a_6o <;> simp_all), ht⟩) (fun _ h9 => by cases h9) dX8_pour_25
  obtain ⟨v_8, kv_9, gr_10, kg_11, ci_12, ti_13, gv_14, ev_15, eg_16, ut_17⟩ := hT a2.toNatClampNeg (i_cl a_6 b_7 (by decide) (by decide))
  rw [gv_14] at k_5
  subst k_5
  refine tp_v (y := .ref v_8) rfl ?_
  refine lv_astore (lv' := [(5, .ref v_8), (4, .null), (0, .ref h0), (1, .int a1), (2, .int a2), (3, .int a3)]) hx hb dX8_pour_12 hl (by decide) rfl (fun ls hl => ?_)
  refine lv_aloadN hx hb dX8_pour_14 (lv_at hl 1 rfl) ?_
  refine lv_ifnullN (tgt := 24) hx hb dX8_pour_16 (by decide) ?_
  refine lv_iconst (v := (-1)) hx hb dX8_pour_24 (by decide) ?_
  exact W.iret (v := (-1)) hx hb hr (fun t ht hW => ⟨(-1), rfl, (by first | rfl | (simp_all; done) | simp [a_6, b_7]), ht⟩) (fun _ h9 => by cases h9) dX8_pour_25
set_option maxHeartbeats 4000000 in
set_option maxRecDepth 100000 in
theorem s_X8_move (l : Launch) (D : va_G) (ws : va_W) (tys : List (ClassId × FieldType)) (h0 : Nat) (X : XF ws tys h0) (a1 a2 a3 : Int32) : Met l yX8_move wsX8_move ({ frames := 2, cells := 0, slots := 0, locals := 43 }) (va_Pc [.ref h0, .int a1, .int a2, .int a3] (fun U => va_P D vwCl ws U.heap ∧ va_K D vwCl tys U)) (vp_Si (fun r => r = if (a1 < 0 ∨ 9 < a1) ∨ (a2 < 0 ∨ 9 < a2) ∨ a1 = a2 then (-1) else (-2))) 0 0 (fun _ => False) := by
  refine Met.ofW (cc := cX8_move) (maxL := 7) (ret := (some .int)) (by decide) rfl ?_
  intro p e s m args below meth c s₁ B hml hv
  obtain ⟨rfl, hP, hK⟩ := hv
  have hx := B.exec
  have hb := B.bytes
  have hr := B.returns
  have hts := atoms_spec (ws := wsX8_move) B.pre
  have hown : s.vm.findClass RX8 = some m.cls := findClass_of_methodNamed B.named
  have hlocks := B.notSynchronized
  have hin7 : ∀ w ∈ u_ws RX7 TX7 5, w ∈ wsX8_move := (fun _ h9 => List.mem_cons_of_mem _ (List.mem_append_left _ (List.mem_append_left _ ((List.mem_append_right _ h9)))))
  have hl := lv_entry ([.ref h0, .int a1, .int a2, .int a3]) (n := 7) (Nat.le_of_ble_eq_true rfl)
  rw [lg_entry_eq]
  generalize (lg_sl ([.ref h0, .int a1, .int a2, .int a3]) ++ List.replicate (7 - (lg_sl ([.ref h0, .int a1, .int a2, .int a3])).length) Slot.unset).toArray = ls at hl ⊢
  have hl : lv_has ls 7 [(0, .ref h0), (1, .int a1), (2, .int a2), (3, .int a3)] := hl
  have X0 := X
  obtain ⟨k0, la, ta, ba, ra, sn, rd, dr, bl, vd, fb, k1, k2, k3, k4, k5, k6, c1, c2, c3, c4, t1, t2, t3, t4, g, bs, rs, e0, e1, u1, e2, u2, e3, u3, e4, u4, e5, fb1, e6, fr3, fr4, hT⟩ := X
  refine lv_aload_n hx hb dX8_move_0 rfl (lv_at hl 0 rfl) ?_
  refine lv_iload_n hx hb dX8_move_1 rfl (lv_at hl 1 rfl) ?_
  refine va_csq (W.runV (As := [.int a1]) (rest := []) ⟨hx, hb, hml, hown, hts⟩ (s_X8_tankAt l D ws tys h0 k0 _ ta k2 c2 g t2 a1 e0 rfl e2 u2) (cwV 1 hts gX8_move_X8_tankAt rfl rfl rfl (by decide +kernel) ⟨Nat.le_of_ble_eq_true rfl, Nat.le_of_ble_eq_true rfl⟩) ⟨fun a U g mk q => ⟨q.1, q.2.1, va_K.moved (u := U) (U := U.calling g mk a) (Vm.Alike.refl U.vm) q.2.2⟩, va_recv hK hP (ci := 8) (q0 := k0) rfl e0, fun U hU hW => ⟨rfl, by rw [hU]; exact hP, va_K.moved hW.alike hK⟩⟩ rfl rfl hl.1 rfl (lv_room (Nat.le_of_ble_eq_true rfl)) dX8_move_2 ⟨Nat.le_of_ble_eq_true rfl, Nat.le_of_ble_eq_true rfl⟩) (fun r_1 k_2 => ?_)
  rcases k_2 with ⟨rfl, a_3o⟩ | ⟨a_3, b_4, k_2⟩
  · refine tp_v (y := .null) rfl ?_
    refine lv_astoreN (lv' := [(4, .null), (0, .ref h0), (1, .int a1), (2, .int a2), (3, .int a3)]) hx hb dX8_move_5 hl (by decide) rfl (fun ls hl => ?_)
    refine lv_aload_n hx hb dX8_move_7 rfl (lv_at hl 1 rfl) ?_
    refine lv_iload_n hx hb dX8_move_8 rfl (lv_at hl 3 rfl) ?_
    refine va_csq (W.runV (As := [.int a2]) (rest := []) ⟨hx, hb, hml, hown, hts⟩ (s_X8_tankAt l D ws tys h0 k0 _ ta k2 c2 g t2 a2 e0 rfl e2 u2) (cwV 1 hts gX8_move_X8_tankAt rfl rfl rfl (by decide +kernel) ⟨Nat.le_of_ble_eq_true rfl, Nat.le_of_ble_eq_true rfl⟩) ⟨fun a U g mk q => ⟨q.1, q.2.1, va_K.moved (u := U) (U := U.calling g mk a) (Vm.Alike.refl U.vm) q.2.2⟩, va_recv hK hP (ci := 8) (q0 := k0) rfl e0, fun U hU hW => ⟨rfl, by rw [hU]; exact hP, va_K.moved hW.alike hK⟩⟩ rfl rfl hl.1 rfl (lv_room (Nat.le_of_ble_eq_true rfl)) dX8_move_9 ⟨Nat.le_of_ble_eq_true rfl, Nat.le_of_ble_eq_true rfl⟩) (fun r_15 k_16 => ?_)
    rcases k_16 with ⟨rfl, a_17o⟩ | ⟨a_17, b_18, k_16⟩
    · refine tp_v (y := .null) rfl ?_
      refine lv_astoreN (lv' := [(5, .null), (4, .null), (0, .ref h0), (1, .int a1), (2, .int a2), (3, .int a3)]) hx hb dX8_move_12 hl (by decide) rfl (fun ls hl => ?_)
      refine lv_aloadN hx hb dX8_move_14 (lv_at hl 1 rfl) ?_
      refine lv_ifnullN (tgt := 29) hx hb dX8_move_16 (by decide) ?_
      refine lv_iconst (v := (-1)) hx hb dX8_move_29 (by decide) ?_
      exact W.iret (v := (-1)) hx hb hr (fun t ht hW => ⟨(-1), rfl, (by rcases a_3o with a_3o | a_3o <;> rcases a_17o with a_17o | a_17o <;> simp_all), ht⟩) (fun _ h9 => by cases h9) dX8_move_30
    obtain ⟨v_19, kv_20, gr_21, kg_22, ci_23, ti_24, gv_25, ev_26, eg_27, ut_28⟩ := hT a2.toNatClampNeg (i_cl a_17 b_18 (by decide) (by decide))
    rw [gv_25] at k_16
    subst k_16
    refine tp_v (y := .ref v_19) rfl ?_
    refine lv_astore (lv' := [(5, .ref v_19), (4, .null), (0, .ref h0), (1, .int a1), (2, .int a2), (3, .int a3)]) hx hb dX8_move_12 hl (by decide) rfl (fun ls hl => ?_)
    refine lv_aloadN hx hb dX8_move_14 (lv_at hl 1 rfl) ?_
    refine lv_ifnullN (tgt := 29) hx hb dX8_move_16 (by decide) ?_
    refine lv_iconst (v := (-1)) hx hb dX8_move_29 (by decide) ?_
    exact W.iret (v := (-1)) hx hb hr (fun t ht hW => ⟨(-1), rfl, (by rcases a_3o with a_3o | a_3o <;> simp_all), ht⟩) (fun _ h9 => by cases h9) dX8_move_30
  obtain ⟨v_5, kv_6, gr_7, kg_8, ci_9, ti_10, gv_11, ev_12, eg_13, ut_14⟩ := hT a1.toNatClampNeg (i_cl a_3 b_4 (by decide) (by decide))
  rw [gv_11] at k_2
  subst k_2
  refine tp_v (y := .ref v_5) rfl ?_
  refine lv_astore (lv' := [(4, .ref v_5), (0, .ref h0), (1, .int a1), (2, .int a2), (3, .int a3)]) hx hb dX8_move_5 hl (by decide) rfl (fun ls hl => ?_)
  refine lv_aload_n hx hb dX8_move_7 rfl (lv_at hl 1 rfl) ?_
  refine lv_iload_n hx hb dX8_move_8 rfl (lv_at hl 3 rfl) ?_
  refine va_csq (W.runV (As := [.int a2]) (rest := []) ⟨hx, hb, hml, hown, hts⟩ (s_X8_tankAt l D ws tys h0 k0 _ ta k2 c2 g t2 a2 e0 rfl e2 u2) (cwV 1 hts gX8_move_X8_tankAt rfl rfl rfl (by decide +kernel) ⟨Nat.le_of_ble_eq_true rfl, Nat.le_of_ble_eq_true rfl⟩) ⟨fun a U g mk q => ⟨q.1, q.2.1, va_K.moved (u := U) (U := U.calling g mk a) (Vm.Alike.refl U.vm) q.2.2⟩, va_recv hK hP (ci := 8) (q0 := k0) rfl e0, fun U hU hW => ⟨rfl, by rw [hU]; exact hP, va_K.moved hW.alike hK⟩⟩ rfl rfl hl.1 rfl (lv_room (Nat.le_of_ble_eq_true rfl)) dX8_move_9 ⟨Nat.le_of_ble_eq_true rfl, Nat.le_of_ble_eq_true rfl⟩) (fun r_29 k_30 => ?_)
  rcases k_30 with ⟨rfl, a_31o⟩ | ⟨a_31, b_32, k_30⟩
  · refine tp_v (y := .null) rfl ?_
    refine lv_astoreN (lv' := [(5, .null), (4, .ref v_5), (0, .ref h0), (1, .int a1), (2, .int a2), (3, .int a3)]) hx hb dX8_move_12 hl (by decide) rfl (fun ls hl => ?_)
    refine lv_aload hx hb dX8_move_14 (lv_at hl 1 rfl) ?_
    refine lv_ifnull hx hb dX8_move_16 ?_
    refine lv_aloadN hx hb dX8_move_19 (lv_at hl 0 rfl) ?_
    refine lv_ifnullN (tgt := 29) hx hb dX8_move_21 (by decide) ?_
    refine lv_iconst (v := (-1)) hx hb dX8_move_29 (by decide) ?_
    exact W.iret (v := (-1)) hx hb hr (fun t ht hW => ⟨(-1), rfl, (by rcases a_31o with a_31o | a_31o <;> simp_all), ht⟩) (fun _ h9 => by cases h9) dX8_move_30
  obtain ⟨v_33, kv_34, gr_35, kg_36, ci_37, ti_38, gv_39, ev_40, eg_41, ut_42⟩ := hT a2.toNatClampNeg (i_cl a_31 b_32 (by decide) (by decide))
  rw [gv_39] at k_30
  subst k_30
  refine tp_v (y := .ref v_33) rfl ?_
  refine lv_astore (lv' := [(5, .ref v_33), (4, .ref v_5), (0, .ref h0), (1, .int a1), (2, .int a2), (3, .int a3)]) hx hb dX8_move_12 hl (by decide) rfl (fun ls hl => ?_)
  refine lv_aload hx hb dX8_move_14 (lv_at hl 1 rfl) ?_
  refine lv_ifnull hx hb dX8_move_16 ?_
  refine lv_aload hx hb dX8_move_19 (lv_at hl 0 rfl) ?_
  refine lv_ifnull hx hb dX8_move_21 ?_
  refine lv_iload_n hx hb dX8_move_24 rfl (lv_at hl 3 rfl) ?_
  refine lv_iload_n hx hb dX8_move_25 rfl (lv_at hl 4 rfl) ?_
  refine lv_icmp_ne (tgt := 31) hx hb dX8_move_26 (by decide) (fun c_43 => ?_) (fun c_43 => ?_)
  · refine lv_iload_n hx hb dX8_move_31 rfl (lv_at hl 5 rfl) ?_
    refine lv_iconst (v := 1) hx hb dX8_move_32 (by decide) ?_
    refine lv_aload hx hb dX8_move_33 (lv_at hl 1 rfl) ?_
    refine va_get (D := D) (ci := 7) (v := .int 0) (C := RX7) (T := TX7) (N := 5) hx hb hts hin7 hown hK hP kv_6 ev_12 rfl 1 (by decide) (hts (.fieldLink RX8 144 "HoneyHouse$Vessel" "total" "I") (List.mem_of_getElem? (i := 1) rfl)) (fun _ h9 => h9) rfl dX8_move_35 ?_
    refine vp_callSi (W.runS (As := [.int a3, .int 1, .int 0]) (rest := []) ⟨hx, hb, hml, hown, hts⟩ (s_X8_isIn l a3 1 0) (va_cwS 3 hts gX8_move_X8_isIn rfl rfl rfl (by decide +kernel) ⟨Nat.le_of_ble_eq_true rfl, Nat.le_of_ble_eq_true rfl⟩) ⟨fun a U g mk q => q, fun U hU hW => ⟨rfl, trivial⟩⟩ rfl rfl hl.1 rfl (lv_room (Nat.le_of_ble_eq_true rfl)) dX8_move_38 ⟨Nat.le_of_ble_eq_true rfl, Nat.le_of_ble_eq_true rfl⟩) (fun r_44 k_45 => ?_)
    rcases (or_comm.mp k_45) with ⟨rfl, a_46, b_47⟩ | ⟨rfl, -⟩
    · exact (i_10 a_46 b_47).elim
    refine lv_if_eq (tgt := 53) hx hb dX8_move_41 (by decide) (fun c_48 => ?_) (fun c_48 => absurd (by decide) c_48)
    refine lv_bipush (v := (-2)) hx hb dX8_move_53 (by decide) ?_
    exact W.iret (v := (-2)) hx hb hr (fun t ht hW => ⟨(-2), rfl, (by first | rfl | (simp_all; done) | simp [a_3, b_4, a_31, b_32, c_43, c_48]), ht⟩) (fun _ h9 => by cases h9) dX8_move_55
  refine lv_iconst (v := (-1)) hx hb dX8_move_29 (by decide) ?_
  exact W.iret (v := (-1)) hx hb hr (fun t ht hW => ⟨(-1), rfl, (by first | rfl | (simp_all; done) | simp [a_3, b_4, a_31, b_32, c_43]), ht⟩) (fun _ h9 => by cases h9) dX8_move_30
set_option maxHeartbeats 4000000 in
set_option maxRecDepth 100000 in
theorem s_X8_warm (l : Launch) (D : va_G) (ws : va_W) (tys : List (ClassId × FieldType)) (h0 : Nat) (X : XF ws tys h0) (a1 a2 : Int32) : Met l yX8_warm wsX8_warm ({ frames := 2, cells := 0, slots := 0, locals := 43 }) (va_Pc [.ref h0, .int a1, .int a2] (fun U => va_P D vwCl ws U.heap ∧ va_K D vwCl tys U)) (vp_Si (fun r => r = (-1))) 0 0 (fun _ => False) := by
  refine Met.ofW (cc := cX8_warm) (maxL := 4) (ret := (some .int)) (by decide) rfl ?_
  intro p e s m args below meth c s₁ B hml hv
  obtain ⟨rfl, hP, hK⟩ := hv
  have hx := B.exec
  have hb := B.bytes
  have hr := B.returns
  have hts := atoms_spec (ws := wsX8_warm) B.pre
  have hown : s.vm.findClass RX8 = some m.cls := findClass_of_methodNamed B.named
  have hlocks := B.notSynchronized
  have hin7 : ∀ w ∈ u_ws RX7 TX7 5, w ∈ wsX8_warm := (fun _ h9 => List.mem_cons_of_mem _ (List.mem_append_left _ ((List.mem_append_right _ h9))))
  have hl := lv_entry ([.ref h0, .int a1, .int a2]) (n := 4) (Nat.le_of_ble_eq_true rfl)
  rw [lg_entry_eq]
  generalize (lg_sl ([.ref h0, .int a1, .int a2]) ++ List.replicate (4 - (lg_sl ([.ref h0, .int a1, .int a2])).length) Slot.unset).toArray = ls at hl ⊢
  have hl : lv_has ls 4 [(0, .ref h0), (1, .int a1), (2, .int a2)] := hl
  have X0 := X
  obtain ⟨k0, la, ta, ba, ra, sn, rd, dr, bl, vd, fb, k1, k2, k3, k4, k5, k6, c1, c2, c3, c4, t1, t2, t3, t4, g, bs, rs, e0, e1, u1, e2, u2, e3, u3, e4, u4, e5, fb1, e6, fr3, fr4, hT⟩ := X
  refine lv_aload_n hx hb dX8_warm_0 rfl (lv_at hl 0 rfl) ?_
  refine lv_iload_n hx hb dX8_warm_1 rfl (lv_at hl 1 rfl) ?_
  refine va_csq (W.runV (As := [.int a1]) (rest := []) ⟨hx, hb, hml, hown, hts⟩ (s_X8_tankAt l D ws tys h0 k0 _ ta k2 c2 g t2 a1 e0 rfl e2 u2) (cwV 1 hts gX8_warm_X8_tankAt rfl rfl rfl (by decide +kernel) ⟨Nat.le_of_ble_eq_true rfl, Nat.le_of_ble_eq_true rfl⟩) ⟨fun a U g mk q => ⟨q.1, q.2.1, va_K.moved (u := U) (U := U.calling g mk a) (Vm.Alike.refl U.vm) q.2.2⟩, va_recv hK hP (ci := 8) (q0 := k0) rfl e0, fun U hU hW => ⟨rfl, by rw [hU]; exact hP, va_K.moved hW.alike hK⟩⟩ rfl rfl hl.1 rfl (lv_room (Nat.le_of_ble_eq_true rfl)) dX8_warm_2 ⟨Nat.le_of_ble_eq_true rfl, Nat.le_of_ble_eq_true rfl⟩) (fun r_1 k_2 => ?_)
  rcases k_2 with ⟨rfl, a_3o⟩ | ⟨a_3, b_4, k_2⟩
  · refine tp_v (y := .null) rfl ?_
    refine lv_astore_nN (lv' := [(3, .null), (0, .ref h0), (1, .int a1), (2, .int a2)]) hx hb dX8_warm_5 rfl hl (by decide) rfl (fun ls hl => ?_)
    refine lv_aload_nN hx hb dX8_warm_6 rfl (lv_at hl 0 rfl) ?_
    refine lv_ifnullN (tgt := 28) hx hb dX8_warm_7 (by decide) ?_
    refine lv_iconst (v := (-1)) hx hb dX8_warm_28 (by decide) ?_
    exact W.iret (v := (-1)) hx hb hr (fun t ht hW => ⟨(-1), rfl, (by rcases a_3o with a_3o | a_3o <;> simp_all), ht⟩) (fun _ h9 => by cases h9) dX8_warm_29
  obtain ⟨v_5, kv_6, gr_7, kg_8, ci_9, ti_10, gv_11, ev_12, eg_13, ut_14⟩ := hT a1.toNatClampNeg (i_cl a_3 b_4 (by decide) (by decide))
  rw [gv_11] at k_2
  subst k_2
  refine tp_v (y := .ref v_5) rfl ?_
  refine lv_astore_n (lv' := [(3, .ref v_5), (0, .ref h0), (1, .int a1), (2, .int a2)]) hx hb dX8_warm_5 rfl hl (by decide) rfl (fun ls hl => ?_)
  refine lv_aload_n hx hb dX8_warm_6 rfl (lv_at hl 0 rfl) ?_
  refine lv_ifnull hx hb dX8_warm_7 ?_
  refine lv_aload_n hx hb dX8_warm_10 rfl (lv_at hl 0 rfl) ?_
  refine va_get (D := D) (ci := 7) (v := .int 0) (C := RX7) (T := TX7) (N := 5) hx hb hts hin7 hown hK hP kv_6 ev_12 rfl 1 (by decide) (hts (.fieldLink RX8 144 "HoneyHouse$Vessel" "total" "I") (List.mem_of_getElem? (i := 1) rfl)) (fun _ h9 => h9) rfl dX8_warm_11 ?_
  refine lv_if_eq (tgt := 28) hx hb dX8_warm_14 (by decide) (fun c_15 => ?_) (fun c_15 => absurd (by decide) c_15)
  refine lv_iconst (v := (-1)) hx hb dX8_warm_28 (by decide) ?_
  exact W.iret (v := (-1)) hx hb hr (fun t ht hW => ⟨(-1), rfl, (by first | rfl | (simp_all; done) | simp [a_3, b_4, c_15]), ht⟩) (fun _ h9 => by cases h9) dX8_warm_29
set_option maxHeartbeats 4000000 in
set_option maxRecDepth 100000 in
theorem s_X8_jar (l : Launch) (D : va_G) (ws : va_W) (tys : List (ClassId × FieldType)) (h0 : Nat) (X : XF ws tys h0) (a1 a2 : Int32) : Met l yX8_jar wsX8_jar ({ frames := 2, cells := 0, slots := 0, locals := 43 }) (va_Pc [.ref h0, .int a1, .int a2] (fun U => va_P D vwCl ws U.heap ∧ va_K D vwCl tys U)) (vp_Si (fun r => r = if a1 < 0 ∨ 9 < a1 then (-1) else (-2))) 0 0 (fun _ => False) := by
  refine Met.ofW (cc := cX8_jar) (maxL := 6) (ret := (some .int)) (by decide) rfl ?_
  intro p e s m args below meth c s₁ B hml hv
  obtain ⟨rfl, hP, hK⟩ := hv
  have hx := B.exec
  have hb := B.bytes
  have hr := B.returns
  have hts := atoms_spec (ws := wsX8_jar) B.pre
  have hown : s.vm.findClass RX8 = some m.cls := findClass_of_methodNamed B.named
  have hlocks := B.notSynchronized
  have hin7 : ∀ w ∈ u_ws RX7 TX7 5, w ∈ wsX8_jar := (fun _ h9 => List.mem_cons_of_mem _ (List.mem_append_left _ (List.mem_append_left _ ((List.mem_append_right _ h9)))))
  have hl := lv_entry ([.ref h0, .int a1, .int a2]) (n := 6) (Nat.le_of_ble_eq_true rfl)
  rw [lg_entry_eq]
  generalize (lg_sl ([.ref h0, .int a1, .int a2]) ++ List.replicate (6 - (lg_sl ([.ref h0, .int a1, .int a2])).length) Slot.unset).toArray = ls at hl ⊢
  have hl : lv_has ls 6 [(0, .ref h0), (1, .int a1), (2, .int a2)] := hl
  have X0 := X
  obtain ⟨k0, la, ta, ba, ra, sn, rd, dr, bl, vd, fb, k1, k2, k3, k4, k5, k6, c1, c2, c3, c4, t1, t2, t3, t4, g, bs, rs, e0, e1, u1, e2, u2, e3, u3, e4, u4, e5, fb1, e6, fr3, fr4, hT⟩ := X
  refine lv_aload_n hx hb dX8_jar_0 rfl (lv_at hl 0 rfl) ?_
  refine lv_iload_n hx hb dX8_jar_1 rfl (lv_at hl 1 rfl) ?_
  refine va_csq (W.runV (As := [.int a1]) (rest := []) ⟨hx, hb, hml, hown, hts⟩ (s_X8_tankAt l D ws tys h0 k0 _ ta k2 c2 g t2 a1 e0 rfl e2 u2) (cwV 1 hts gX8_jar_X8_tankAt rfl rfl rfl (by decide +kernel) ⟨Nat.le_of_ble_eq_true rfl, Nat.le_of_ble_eq_true rfl⟩) ⟨fun a U g mk q => ⟨q.1, q.2.1, va_K.moved (u := U) (U := U.calling g mk a) (Vm.Alike.refl U.vm) q.2.2⟩, va_recv hK hP (ci := 8) (q0 := k0) rfl e0, fun U hU hW => ⟨rfl, by rw [hU]; exact hP, va_K.moved hW.alike hK⟩⟩ rfl rfl hl.1 rfl (lv_room (Nat.le_of_ble_eq_true rfl)) dX8_jar_2 ⟨Nat.le_of_ble_eq_true rfl, Nat.le_of_ble_eq_true rfl⟩) (fun r_1 k_2 => ?_)
  rcases k_2 with ⟨rfl, a_3o⟩ | ⟨a_3, b_4, k_2⟩
  · refine tp_v (y := .null) rfl ?_
    refine lv_astore_nN (lv' := [(3, .null), (0, .ref h0), (1, .int a1), (2, .int a2)]) hx hb dX8_jar_5 rfl hl (by decide) rfl (fun ls hl => ?_)
    refine lv_aload_nN hx hb dX8_jar_6 rfl (lv_at hl 0 rfl) ?_
    refine lv_ifnonnullN hx hb dX8_jar_7 ?_
    refine lv_iconst (v := (-1)) hx hb dX8_jar_10 (by decide) ?_
    exact W.iret (v := (-1)) hx hb hr (fun t ht hW => ⟨(-1), rfl, (by rcases a_3o with a_3o | a_3o <;> simp_all), ht⟩) (fun _ h9 => by cases h9) dX8_jar_11
  obtain ⟨v_5, kv_6, gr_7, kg_8, ci_9, ti_10, gv_11, ev_12, eg_13, ut_14⟩ := hT a1.toNatClampNeg (i_cl a_3 b_4 (by decide) (by decide))
  rw [gv_11] at k_2
  subst k_2
  refine tp_v (y := .ref v_5) rfl ?_
  refine lv_astore_n (lv' := [(3, .ref v_5), (0, .ref h0), (1, .int a1), (2, .int a2)]) hx hb dX8_jar_5 rfl hl (by decide) rfl (fun ls hl => ?_)
  refine lv_aload_n hx hb dX8_jar_6 rfl (lv_at hl 0 rfl) ?_
  refine lv_ifnonnull (tgt := 12) hx hb dX8_jar_7 (by decide) ?_
  refine lv_iload_n hx hb dX8_jar_12 rfl (lv_at hl 3 rfl) ?_
  refine lv_iconst (v := 1) hx hb dX8_jar_13 (by decide) ?_
  refine lv_aload_n hx hb dX8_jar_14 rfl (lv_at hl 0 rfl) ?_
  refine va_get (D := D) (ci := 7) (v := .int 0) (C := RX7) (T := TX7) (N := 5) hx hb hts hin7 hown hK hP kv_6 ev_12 rfl 1 (by decide) (hts (.fieldLink RX8 144 "HoneyHouse$Vessel" "total" "I") (List.mem_of_getElem? (i := 1) rfl)) (fun _ h9 => h9) rfl dX8_jar_15 ?_
  refine vp_callSi (W.runS (As := [.int a2, .int 1, .int 0]) (rest := []) ⟨hx, hb, hml, hown, hts⟩ (s_X8_isIn l a2 1 0) (va_cwS 3 hts gX8_jar_X8_isIn rfl rfl rfl (by decide +kernel) ⟨Nat.le_of_ble_eq_true rfl, Nat.le_of_ble_eq_true rfl⟩) ⟨fun a U g mk q => q, fun U hU hW => ⟨rfl, trivial⟩⟩ rfl rfl hl.1 rfl (lv_room (Nat.le_of_ble_eq_true rfl)) dX8_jar_18 ⟨Nat.le_of_ble_eq_true rfl, Nat.le_of_ble_eq_true rfl⟩) (fun r_15 k_16 => ?_)
  rcases (or_comm.mp k_16) with ⟨rfl, a_17, b_18⟩ | ⟨rfl, -⟩
  · exact (i_10 a_17 b_18).elim
  refine lv_if_ne (tgt := 27) hx hb dX8_jar_21 (by decide) (fun c_19 => absurd (by decide) c_19) (fun c_19 => ?_)
  refine lv_bipush (v := (-2)) hx hb dX8_jar_24 (by decide) ?_
  exact W.iret (v := (-2)) hx hb hr (fun t ht hW => ⟨(-2), rfl, (by first | rfl | (simp_all; done) | simp [a_3, b_4, c_19]), ht⟩) (fun _ h9 => by cases h9) dX8_jar_26
set_option maxHeartbeats 4000000 in
set_option maxRecDepth 100000 in
theorem s_X8_spill (l : Launch) (D : va_G) (ws : va_W) (tys : List (ClassId × FieldType)) (h0 : Nat) (X : XF ws tys h0) (a1 a2 : Int32) : Met l yX8_spill wsX8_spill ({ frames := 2, cells := 0, slots := 0, locals := 43 }) (va_Pc [.ref h0, .int a1, .int a2] (fun U => va_P D vwCl ws U.heap ∧ va_K D vwCl tys U)) (vp_Si (fun r => r = if a1 < 0 ∨ 9 < a1 then (-1) else (-2))) 0 0 (fun _ => False) := by
  refine Met.ofW (cc := cX8_spill) (maxL := 4) (ret := (some .int)) (by decide) rfl ?_
  intro p e s m args below meth c s₁ B hml hv
  obtain ⟨rfl, hP, hK⟩ := hv
  have hx := B.exec
  have hb := B.bytes
  have hr := B.returns
  have hts := atoms_spec (ws := wsX8_spill) B.pre
  have hown : s.vm.findClass RX8 = some m.cls := findClass_of_methodNamed B.named
  have hlocks := B.notSynchronized
  have hin7 : ∀ w ∈ u_ws RX7 TX7 5, w ∈ wsX8_spill := (fun _ h9 => List.mem_cons_of_mem _ (List.mem_append_left _ (List.mem_append_left _ ((List.mem_append_right _ h9)))))
  have hl := lv_entry ([.ref h0, .int a1, .int a2]) (n := 4) (Nat.le_of_ble_eq_true rfl)
  rw [lg_entry_eq]
  generalize (lg_sl ([.ref h0, .int a1, .int a2]) ++ List.replicate (4 - (lg_sl ([.ref h0, .int a1, .int a2])).length) Slot.unset).toArray = ls at hl ⊢
  have hl : lv_has ls 4 [(0, .ref h0), (1, .int a1), (2, .int a2)] := hl
  have X0 := X
  obtain ⟨k0, la, ta, ba, ra, sn, rd, dr, bl, vd, fb, k1, k2, k3, k4, k5, k6, c1, c2, c3, c4, t1, t2, t3, t4, g, bs, rs, e0, e1, u1, e2, u2, e3, u3, e4, u4, e5, fb1, e6, fr3, fr4, hT⟩ := X
  refine lv_aload_n hx hb dX8_spill_0 rfl (lv_at hl 0 rfl) ?_
  refine lv_iload_n hx hb dX8_spill_1 rfl (lv_at hl 1 rfl) ?_
  refine va_csq (W.runV (As := [.int a1]) (rest := []) ⟨hx, hb, hml, hown, hts⟩ (s_X8_tankAt l D ws tys h0 k0 _ ta k2 c2 g t2 a1 e0 rfl e2 u2) (cwV 1 hts gX8_spill_X8_tankAt rfl rfl rfl (by decide +kernel) ⟨Nat.le_of_ble_eq_true rfl, Nat.le_of_ble_eq_true rfl⟩) ⟨fun a U g mk q => ⟨q.1, q.2.1, va_K.moved (u := U) (U := U.calling g mk a) (Vm.Alike.refl U.vm) q.2.2⟩, va_recv hK hP (ci := 8) (q0 := k0) rfl e0, fun U hU hW => ⟨rfl, by rw [hU]; exact hP, va_K.moved hW.alike hK⟩⟩ rfl rfl hl.1 rfl (lv_room (Nat.le_of_ble_eq_true rfl)) dX8_spill_2 ⟨Nat.le_of_ble_eq_true rfl, Nat.le_of_ble_eq_true rfl⟩) (fun r_1 k_2 => ?_)
  rcases k_2 with ⟨rfl, a_3o⟩ | ⟨a_3, b_4, k_2⟩
  · refine tp_v (y := .null) rfl ?_
    refine lv_astore_nN (lv' := [(3, .null), (0, .ref h0), (1, .int a1), (2, .int a2)]) hx hb dX8_spill_5 rfl hl (by decide) rfl (fun ls hl => ?_)
    refine lv_aload_nN hx hb dX8_spill_6 rfl (lv_at hl 0 rfl) ?_
    refine lv_ifnonnullN hx hb dX8_spill_7 ?_
    refine lv_iconst (v := (-1)) hx hb dX8_spill_10 (by decide) ?_
    exact W.iret (v := (-1)) hx hb hr (fun t ht hW => ⟨(-1), rfl, (by rcases a_3o with a_3o | a_3o <;> simp_all), ht⟩) (fun _ h9 => by cases h9) dX8_spill_11
  obtain ⟨v_5, kv_6, gr_7, kg_8, ci_9, ti_10, gv_11, ev_12, eg_13, ut_14⟩ := hT a1.toNatClampNeg (i_cl a_3 b_4 (by decide) (by decide))
  rw [gv_11] at k_2
  subst k_2
  refine tp_v (y := .ref v_5) rfl ?_
  refine lv_astore_n (lv' := [(3, .ref v_5), (0, .ref h0), (1, .int a1), (2, .int a2)]) hx hb dX8_spill_5 rfl hl (by decide) rfl (fun ls hl => ?_)
  refine lv_aload_n hx hb dX8_spill_6 rfl (lv_at hl 0 rfl) ?_
  refine lv_ifnonnull (tgt := 12) hx hb dX8_spill_7 (by decide) ?_
  refine lv_iload_n hx hb dX8_spill_12 rfl (lv_at hl 3 rfl) ?_
  refine lv_iconst (v := 1) hx hb dX8_spill_13 (by decide) ?_
  refine lv_aload_n hx hb dX8_spill_14 rfl (lv_at hl 0 rfl) ?_
  refine va_get (D := D) (ci := 7) (v := .int 0) (C := RX7) (T := TX7) (N := 5) hx hb hts hin7 hown hK hP kv_6 ev_12 rfl 1 (by decide) (hts (.fieldLink RX8 144 "HoneyHouse$Vessel" "total" "I") (List.mem_of_getElem? (i := 1) rfl)) (fun _ h9 => h9) rfl dX8_spill_15 ?_
  refine vp_callSi (W.runS (As := [.int a2, .int 1, .int 0]) (rest := []) ⟨hx, hb, hml, hown, hts⟩ (s_X8_isIn l a2 1 0) (va_cwS 3 hts gX8_spill_X8_isIn rfl rfl rfl (by decide +kernel) ⟨Nat.le_of_ble_eq_true rfl, Nat.le_of_ble_eq_true rfl⟩) ⟨fun a U g mk q => q, fun U hU hW => ⟨rfl, trivial⟩⟩ rfl rfl hl.1 rfl (lv_room (Nat.le_of_ble_eq_true rfl)) dX8_spill_18 ⟨Nat.le_of_ble_eq_true rfl, Nat.le_of_ble_eq_true rfl⟩) (fun r_15 k_16 => ?_)
  rcases (or_comm.mp k_16) with ⟨rfl, a_17, b_18⟩ | ⟨rfl, -⟩
  · exact (i_10 a_17 b_18).elim
  refine lv_if_ne (tgt := 27) hx hb dX8_spill_21 (by decide) (fun c_19 => absurd (by decide) c_19) (fun c_19 => ?_)
  refine lv_bipush (v := (-2)) hx hb dX8_spill_24 (by decide) ?_
  exact W.iret (v := (-2)) hx hb hr (fun t ht hW => ⟨(-2), rfl, (by first | rfl | (simp_all; done) | simp [a_3, b_4, c_19]), ht⟩) (fun _ h9 => by cases h9) dX8_spill_26
set_option maxHeartbeats 4000000 in
set_option maxRecDepth 100000 in
theorem s_X8_vesselAt (l : Launch) (D : va_G) (ws : va_W) (tys : List (ClassId × FieldType)) (h0 k0 : Nat) (fs : List Value) (ta k2 : Nat) (c2 : ClassId) (g : Nat → Option Nat) (t2 : Nat) (ba k3 : Nat) (c3 : ClassId) (t3 : Nat) (a1 a2 : Int32) (e0 : ws[k0]? = some (h0, .inr (8, fs))) (f1 : fs[1]? = some (.ref ta)) (e2 : ws[k2]? = some (ta, .inl (c2, 10, .inr (.inr (.inr (.inr g)))))) (u2 : tys[t2]? = some (c2, .object RX7)) (f2 : fs[2]? = some (.ref ba)) (e3 : ws[k3]? = some (ba, .inl (c3, 60, .inr (.inr (.inr (.inr (fun _ => none))))))) (u3 : tys[t3]? = some (c3, .object RX7)) : Met l yX8_vesselAt wsX8_vesselAt ({ frames := 2, cells := 0, slots := 0, locals := 43 }) (va_Pc [.ref h0, .int a1, .int a2] (fun U => va_P D vwCl ws U.heap ∧ va_K D vwCl tys U)) (va_Sq (fun r => (r = none ∧ (¬ a1 = 0 ∨ a2 < 0 ∨ 9 < a2)) ∨ (a1 = 0 ∧ ¬ a2 < 0 ∧ ¬ 9 < a2 ∧ r = g a2.toNatClampNeg))) 0 0 (fun _ => False) := by
  refine Met.ofW (cc := cX8_vesselAt) (maxL := 3) (ret := (some (.object "HoneyHouse$Vessel"))) (by decide) rfl ?_
  intro p e s m args below meth c s₁ B hml hv
  obtain ⟨rfl, hP, hK⟩ := hv
  have hx := B.exec
  have hb := B.bytes
  have hr := B.returns
  have hts := atoms_spec (ws := wsX8_vesselAt) B.pre
  have hown : s.vm.findClass RX8 = some m.cls := findClass_of_methodNamed B.named
  have hlocks := B.notSynchronized
  have hin8 : ∀ w ∈ u_ws RX8 TX8 15, w ∈ wsX8_vesselAt := (fun _ h9 => List.mem_cons_of_mem _ ((List.mem_append_right _ h9)))
  have hl := lv_entry ([.ref h0, .int a1, .int a2]) (n := 3) (Nat.le_of_ble_eq_true rfl)
  rw [lg_entry_eq]
  generalize (lg_sl ([.ref h0, .int a1, .int a2]) ++ List.replicate (3 - (lg_sl ([.ref h0, .int a1, .int a2])).length) Slot.unset).toArray = ls at hl ⊢
  have hl : lv_has ls 3 [(0, .ref h0), (1, .int a1), (2, .int a2)] := hl
  refine lv_iload_n hx hb dX8_vesselAt_0 rfl (lv_at hl 1 rfl) ?_
  refine lv_if_ne (tgt := 10) hx hb dX8_vesselAt_1 (by decide) (fun c_1 => ?_) (fun c_1 => ?_)
  · refine lv_iload_n hx hb dX8_vesselAt_10 rfl (lv_at hl 1 rfl) ?_
    refine lv_iconst (v := 1) hx hb dX8_vesselAt_11 (by decide) ?_
    refine lv_icmp_ne (tgt := 39) hx hb dX8_vesselAt_12 (by decide) (fun c_2 => ?_) (fun c_2 => ?_)
    · refine lv_null hx hb dX8_vesselAt_39 ?_
      exact W.aret (v := .null) hx hb hr (Or.inl ⟨_, rfl⟩) (Or.inl rfl) (fun t ht hW => ⟨none, rfl, Or.inl ⟨rfl, Or.inl c_1⟩, ht⟩) (fun _ h9 => by cases h9) dX8_vesselAt_40
    refine lv_iload_n hx hb dX8_vesselAt_15 rfl (lv_at hl 2 rfl) ?_
    refine lv_iconst (v := 0) hx hb dX8_vesselAt_16 (by decide) ?_
    refine lv_aload_n hx hb dX8_vesselAt_17 rfl (lv_at hl 0 rfl) ?_
    refine va_get (D := D) (ci := 8) (v := .ref ba) (C := RX8) (T := TX8) (N := 15) hx hb hts hin8 hown hK hP k0 e0 rfl 2 (by decide) (hts (.fieldLink RX8 21 "HoneyHouse" "batches" "[LHoneyHouse$Vessel;") (List.mem_of_getElem? (i := 1) rfl)) (fun _ h9 => h9) f2 dX8_vesselAt_18 ?_
    refine va_alen (v := 60) hx hb hK hP k3 t3 e3 u3 rfl dX8_vesselAt_21 ?_
    refine lv_iconst (v := 1) hx hb dX8_vesselAt_22 (by decide) ?_
    refine lv_isub hx hb dX8_vesselAt_23 ?_
    refine tp_i (y := 59) (by decide) ?_
    refine vp_callSi (W.runS (As := [.int a2, .int 0, .int 59]) (rest := []) ⟨hx, hb, hml, hown, hts⟩ (s_X8_isIn l a2 0 59) (va_cwS 3 hts gX8_vesselAt_X8_isIn rfl rfl rfl (by decide +kernel) ⟨Nat.le_of_ble_eq_true rfl, Nat.le_of_ble_eq_true rfl⟩) ⟨fun a U g mk q => q, fun U hU hW => ⟨rfl, trivial⟩⟩ rfl rfl hl.1 rfl (lv_room (Nat.le_of_ble_eq_true rfl)) dX8_vesselAt_24 ⟨Nat.le_of_ble_eq_true rfl, Nat.le_of_ble_eq_true rfl⟩) (fun r_3 k_4 => ?_)
    rcases k_4 with ⟨rfl, a_5o⟩ | ⟨rfl, a_5, b_6⟩
    · refine lv_if_eq (tgt := 39) hx hb dX8_vesselAt_27 (by decide) (fun c_7 => ?_) (fun c_7 => absurd (by decide) c_7)
      refine lv_null hx hb dX8_vesselAt_39 ?_
      exact W.aret (v := .null) hx hb hr (Or.inl ⟨_, rfl⟩) (Or.inl rfl) (fun t ht hW => ⟨none, rfl, Or.inl ⟨rfl, Or.inl c_1⟩, ht⟩) (fun _ h9 => by cases h9) dX8_vesselAt_40
    refine lv_if_eq (tgt := 39) hx hb dX8_vesselAt_27 (by decide) (fun c_8 => absurd c_8 (by decide)) (fun c_8 => ?_)
    refine lv_aload_n hx hb dX8_vesselAt_30 rfl (lv_at hl 0 rfl) ?_
    refine va_get (D := D) (ci := 8) (v := .ref ba) (C := RX8) (T := TX8) (N := 15) hx hb hts hin8 hown hK hP k0 e0 rfl 2 (by decide) (hts (.fieldLink RX8 21 "HoneyHouse" "batches" "[LHoneyHouse$Vessel;") (List.mem_of_getElem? (i := 1) rfl)) (fun _ h9 => h9) f2 dX8_vesselAt_31 ?_
    refine lv_iload_n hx hb dX8_vesselAt_34 rfl (lv_at hl 2 rfl) ?_
    refine va_aldq (f := fun _ => none) (n := 60) hx hb hK hP k3 t3 e3 u3 (i_in a_5 b_6 (by decide)) dX8_vesselAt_35 ?_
    refine tp_v (y := .null) rfl ?_
    refine lv_goto (tgt := 40) hx hb dX8_vesselAt_36 (by decide) ?_
    exact W.aret (v := .null) hx hb hr (Or.inl ⟨_, rfl⟩) (Or.inl rfl) (fun t ht hW => ⟨none, rfl, Or.inl ⟨rfl, Or.inl c_1⟩, ht⟩) (fun _ h9 => by cases h9) dX8_vesselAt_40
  refine lv_aload_n hx hb dX8_vesselAt_4 rfl (lv_at hl 0 rfl) ?_
  refine lv_iload_n hx hb dX8_vesselAt_5 rfl (lv_at hl 2 rfl) ?_
  refine va_csq (W.runV (As := [.int a2]) (rest := []) ⟨hx, hb, hml, hown, hts⟩ (s_X8_tankAt l D ws tys h0 k0 _ ta k2 c2 g t2 a2 e0 f1 e2 u2) (cwV 1 hts gX8_vesselAt_X8_tankAt rfl rfl rfl (by decide +kernel) ⟨Nat.le_of_ble_eq_true rfl, Nat.le_of_ble_eq_true rfl⟩) ⟨fun a U g mk q => ⟨q.1, q.2.1, va_K.moved (u := U) (U := U.calling g mk a) (Vm.Alike.refl U.vm) q.2.2⟩, va_recv hK hP (ci := 8) (q0 := k0) rfl e0, fun U hU hW => ⟨rfl, by rw [hU]; exact hP, va_K.moved hW.alike hK⟩⟩ rfl rfl hl.1 rfl (lv_room (Nat.le_of_ble_eq_true rfl)) dX8_vesselAt_6 ⟨Nat.le_of_ble_eq_true rfl, Nat.le_of_ble_eq_true rfl⟩) (fun r_9 k_10 => ?_)
  exact W.aret (v := va_rf r_9) hx hb hr (Or.inl ⟨_, rfl⟩) (va_rf_or _) (fun t ht hW => ⟨r_9, rfl, (by rcases k_10 with ⟨q1, q2⟩ | ⟨q1, q2, q3⟩; exact Or.inl ⟨q1, Or.inr q2⟩; exact Or.inr ⟨by first | exact c_1 | exact Decidable.not_not.mp c_1, q1, q2, q3⟩), ht⟩) (fun _ h9 => by cases h9) dX8_vesselAt_9
set_option maxHeartbeats 4000000 in
set_option maxRecDepth 100000 in
theorem s_X8_holds (l : Launch) (D : va_G) (ws : va_W) (tys : List (ClassId × FieldType)) (h0 : Nat) (X : XF ws tys h0) (a1 a2 a3 : Int32) : Met l yX8_holds wsX8_holds ({ frames := 3, cells := 0, slots := 0, locals := 65 }) (va_Pc [.ref h0, .int a1, .int a2, .int a3] (fun U => va_P D vwCl ws U.heap ∧ va_K D vwCl tys U)) (vp_Si (fun r => r = if a1 = 0 ∧ ¬ a2 < 0 ∧ ¬ 9 < a2 ∧ (a3 = 0 ∨ a3 = 1 ∨ a3 = 2 ∨ a3 = 3 ∨ a3 = 4) then 0 else (-1))) 0 0 (fun _ => False) := by
  refine Met.ofW (cc := cX8_holds) (maxL := 5) (ret := (some .int)) (by decide) rfl ?_
  intro p e s m args below meth c s₁ B hml hv
  obtain ⟨rfl, hP, hK⟩ := hv
  have hx := B.exec
  have hb := B.bytes
  have hr := B.returns
  have hts := atoms_spec (ws := wsX8_holds) B.pre
  have hown : s.vm.findClass RX8 = some m.cls := findClass_of_methodNamed B.named
  have hlocks := B.notSynchronized
  have hin7 : ∀ w ∈ u_ws RX7 TX7 5, w ∈ wsX8_holds := (fun _ h9 => List.mem_cons_of_mem _ (List.mem_append_left _ ((List.mem_append_right _ h9))))
  have hl := lv_entry ([.ref h0, .int a1, .int a2, .int a3]) (n := 5) (Nat.le_of_ble_eq_true rfl)
  rw [lg_entry_eq]
  generalize (lg_sl ([.ref h0, .int a1, .int a2, .int a3]) ++ List.replicate (5 - (lg_sl ([.ref h0, .int a1, .int a2, .int a3])).length) Slot.unset).toArray = ls at hl ⊢
  have hl : lv_has ls 5 [(0, .ref h0), (1, .int a1), (2, .int a2), (3, .int a3)] := hl
  have X0 := X
  obtain ⟨k0, la, ta, ba, ra, sn, rd, dr, bl, vd, fb, k1, k2, k3, k4, k5, k6, c1, c2, c3, c4, t1, t2, t3, t4, g, bs, rs, e0, e1, u1, e2, u2, e3, u3, e4, u4, e5, fb1, e6, fr3, fr4, hT⟩ := X
  refine lv_aload_n hx hb dX8_holds_0 rfl (lv_at hl 0 rfl) ?_
  refine lv_iload_n hx hb dX8_holds_1 rfl (lv_at hl 1 rfl) ?_
  refine lv_iload_n hx hb dX8_holds_2 rfl (lv_at hl 2 rfl) ?_
  refine va_csq (W.runV (As := [.int a1, .int a2]) (rest := []) ⟨hx, hb, hml, hown, hts⟩ (s_X8_vesselAt l D ws tys h0 k0 _ ta k2 c2 g t2 ba k3 c3 t3 a1 a2 e0 rfl e2 u2 rfl e3 u3) (cwV 2 hts gX8_holds_X8_vesselAt rfl rfl rfl (by decide +kernel) ⟨Nat.le_of_ble_eq_true rfl, Nat.le_of_ble_eq_true rfl⟩) ⟨fun a U g mk q => ⟨q.1, q.2.1, va_K.moved (u := U) (U := U.calling g mk a) (Vm.Alike.refl U.vm) q.2.2⟩, va_recv hK hP (ci := 8) (q0 := k0) rfl e0, fun U hU hW => ⟨rfl, by rw [hU]; exact hP, va_K.moved hW.alike hK⟩⟩ rfl rfl hl.1 rfl (lv_room (Nat.le_of_ble_eq_true rfl)) dX8_holds_3 ⟨Nat.le_of_ble_eq_true rfl, Nat.le_of_ble_eq_true rfl⟩) (fun r_1 k_2 => ?_)
  rcases k_2 with ⟨rfl, a_3o⟩ | ⟨z_5, a_3, b_4, k_2⟩
  · refine tp_v (y := .null) rfl ?_
    refine lv_astoreN (lv' := [(4, .null), (0, .ref h0), (1, .int a1), (2, .int a2), (3, .int a3)]) hx hb dX8_holds_6 hl (by decide) rfl (fun ls hl => ?_)
    refine lv_aloadN hx hb dX8_holds_8 (lv_at hl 0 rfl) ?_
    refine lv_ifnonnullN hx hb dX8_holds_10 ?_
    refine lv_iconst (v := (-1)) hx hb dX8_holds_13 (by decide) ?_
    exact W.iret (v := (-1)) hx hb hr (fun t ht hW => ⟨(-1), rfl, (by rcases a_3o with a_3o | a_3o | a_3o <;> simp_all), ht⟩) (fun _ h9 => by cases h9) dX8_holds_14
  obtain ⟨v_6, kv_7, gr_8, kg_9, ci_10, ti_11, gv_12, ev_13, eg_14, ut_15⟩ := hT a2.toNatClampNeg (i_cl a_3 b_4 (by decide) (by decide))
  rw [gv_12] at k_2
  subst k_2
  refine tp_v (y := .ref v_6) rfl ?_
  refine lv_astore (lv' := [(4, .ref v_6), (0, .ref h0), (1, .int a1), (2, .int a2), (3, .int a3)]) hx hb dX8_holds_6 hl (by decide) rfl (fun ls hl => ?_)
  refine lv_aload hx hb dX8_holds_8 (lv_at hl 0 rfl) ?_
  refine lv_ifnonnull (tgt := 15) hx hb dX8_holds_10 (by decide) ?_
  refine lv_iload_n hx hb dX8_holds_15 rfl (lv_at hl 4 rfl) ?_
  by_cases c_16 : a3 = 0
  · refine lv_tableIn (off := 36) (tgt := 52) hx hb dX8_holds_16 (by rw [c_16]; decide) (by rw [c_16]; decide) (by rw [c_16]; rfl) (by decide) ?_
    refine lv_aload hx hb dX8_holds_52 (lv_at hl 0 rfl) ?_
    refine va_get (D := D) (ci := 7) (v := .int 0) (C := RX7) (T := TX7) (N := 5) hx hb hts hin7 hown hK hP kv_7 ev_13 rfl 1 (by decide) (hts (.fieldLink RX8 144 "HoneyHouse$Vessel" "total" "I") (List.mem_of_getElem? (i := 1) rfl)) (fun _ h9 => h9) rfl dX8_holds_54 ?_
    exact W.iret (v := 0) hx hb hr (fun t ht hW => ⟨0, rfl, (by first | rfl | (simp_all; done) | simp [z_5, a_3, b_4, c_16]), ht⟩) (fun _ h9 => by cases h9) dX8_holds_57
  by_cases c_17 : a3 = 1
  · refine lv_tableIn (off := 42) (tgt := 58) hx hb dX8_holds_16 (by rw [c_17]; decide) (by rw [c_17]; decide) (by rw [c_17]; rfl) (by decide) ?_
    refine lv_aload hx hb dX8_holds_58 (lv_at hl 0 rfl) ?_
    refine vp_callSi (W.runV (As := []) (rest := []) ⟨hx, hb, hml, hown, hts⟩ (s_X7_lotsInIt l D ws tys v_6 kv_7 gr_8 kg_9 ci_10 ti_11 ev_13 eg_14 ut_15) (cwV 0 hts gX8_holds_X7_lotsInIt rfl rfl rfl (by decide +kernel) ⟨Nat.le_of_ble_eq_true rfl, Nat.le_of_ble_eq_true rfl⟩) ⟨fun a U g mk q => ⟨q.1, q.2.1, va_K.moved (u := U) (U := U.calling g mk a) (Vm.Alike.refl U.vm) q.2.2⟩, va_recv hK hP (ci := 7) (q0 := kv_7) rfl ev_13, fun U hU hW => ⟨rfl, by rw [hU]; exact hP, va_K.moved hW.alike hK⟩⟩ rfl rfl hl.1 rfl (lv_room (Nat.le_of_ble_eq_true rfl)) dX8_holds_60 ⟨Nat.le_of_ble_eq_true rfl, Nat.le_of_ble_eq_true rfl⟩) (fun r_18 k_19 => ?_)
    subst k_19
    exact W.iret (v := 0) hx hb hr (fun t ht hW => ⟨0, rfl, (by first | rfl | (simp_all; done) | simp [z_5, a_3, b_4, c_16, c_17]), ht⟩) (fun _ h9 => by cases h9) dX8_holds_63
  by_cases c_20 : a3 = 2
  · refine lv_tableIn (off := 48) (tgt := 64) hx hb dX8_holds_16 (by rw [c_20]; decide) (by rw [c_20]; decide) (by rw [c_20]; rfl) (by decide) ?_
    refine lv_aload hx hb dX8_holds_64 (lv_at hl 0 rfl) ?_
    refine va_get (D := D) (ci := 7) (v := .int 0) (C := RX7) (T := TX7) (N := 5) hx hb hts hin7 hown hK hP kv_7 ev_13 rfl 2 (by decide) (hts (.fieldLink RX8 160 "HoneyHouse$Vessel" "heat" "I") (List.mem_of_getElem? (i := 2) rfl)) (fun _ h9 => h9) rfl dX8_holds_66 ?_
    exact W.iret (v := 0) hx hb hr (fun t ht hW => ⟨0, rfl, (by first | rfl | (simp_all; done) | simp [z_5, a_3, b_4, c_16, c_17, c_20]), ht⟩) (fun _ h9 => by cases h9) dX8_holds_69
  by_cases c_21 : a3 = 3
  · refine lv_tableIn (off := 54) (tgt := 70) hx hb dX8_holds_16 (by rw [c_21]; decide) (by rw [c_21]; decide) (by rw [c_21]; rfl) (by decide) ?_
    refine lv_aload hx hb dX8_holds_70 (lv_at hl 0 rfl) ?_
    refine va_get (D := D) (ci := 7) (v := .int 0) (C := RX7) (T := TX7) (N := 5) hx hb hts hin7 hown hK hP kv_7 ev_13 rfl 3 (by decide) (hts (.fieldLink RX8 147 "HoneyHouse$Vessel" "roomOrTank" "I") (List.mem_of_getElem? (i := 3) rfl)) (fun _ h9 => h9) rfl dX8_holds_72 ?_
    exact W.iret (v := 0) hx hb hr (fun t ht hW => ⟨0, rfl, (by first | rfl | (simp_all; done) | simp [z_5, a_3, b_4, c_16, c_17, c_20, c_21]), ht⟩) (fun _ h9 => by cases h9) dX8_holds_75
  by_cases c_22 : a3 = 4
  · refine lv_tableIn (off := 60) (tgt := 76) hx hb dX8_holds_16 (by rw [c_22]; decide) (by rw [c_22]; decide) (by rw [c_22]; rfl) (by decide) ?_
    refine lv_aload hx hb dX8_holds_76 (lv_at hl 0 rfl) ?_
    refine va_get (D := D) (ci := 7) (v := .int 0) (C := RX7) (T := TX7) (N := 5) hx hb hts hin7 hown hK hP kv_7 ev_13 rfl 4 (by decide) (hts (.fieldLink RX8 150 "HoneyHouse$Vessel" "priceOrDay" "I") (List.mem_of_getElem? (i := 4) rfl)) (fun _ h9 => h9) rfl dX8_holds_78 ?_
    exact W.iret (v := 0) hx hb hr (fun t ht hW => ⟨0, rfl, (by first | rfl | (simp_all; done) | simp [z_5, a_3, b_4, c_16, c_17, c_20, c_21, c_22]), ht⟩) (fun _ h9 => by cases h9) dX8_holds_81
  have nc_16 := lv_neT c_16 (a := 0) (by decide)
  have nc_17 := lv_neT c_17 (a := 1) (by decide)
  have nc_20 := lv_neT c_20 (a := 2) (by decide)
  have nc_21 := lv_neT c_21 (a := 3) (by decide)
  have nc_22 := lv_neT c_22 (a := 4) (by decide)
  refine lv_tableOut (tgt := 82) hx hb dX8_holds_16 (by omega) (by decide) ?_
  refine lv_iconst (v := (-1)) hx hb dX8_holds_82 (by decide) ?_
  exact W.iret (v := (-1)) hx hb hr (fun t ht hW => ⟨(-1), rfl, (by first | rfl | (simp_all; done) | simp [z_5, a_3, b_4, c_16, c_17, c_20, c_21, c_22]), ht⟩) (fun _ h9 => by cases h9) dX8_holds_83
set_option maxHeartbeats 4000000 in
set_option maxRecDepth 100000 in
theorem s_X8_part (l : Launch) (D : va_G) (ws : va_W) (tys : List (ClassId × FieldType)) (h0 : Nat) (X : XF ws tys h0) (a1 a2 a3 : Int32) : Met l yX8_part wsX8_part ({ frames := 3, cells := 0, slots := 0, locals := 65 }) (va_Pc [.ref h0, .int a1, .int a2, .int a3] (fun U => va_P D vwCl ws U.heap ∧ va_K D vwCl tys U)) (vp_Si (fun r => r = (-1))) 0 0 (fun _ => False) := by
  refine Met.ofW (cc := cX8_part) (maxL := 5) (ret := (some .int)) (by decide) rfl ?_
  intro p e s m args below meth c s₁ B hml hv
  obtain ⟨rfl, hP, hK⟩ := hv
  have hx := B.exec
  have hb := B.bytes
  have hr := B.returns
  have hts := atoms_spec (ws := wsX8_part) B.pre
  have hown : s.vm.findClass RX8 = some m.cls := findClass_of_methodNamed B.named
  have hlocks := B.notSynchronized
  have hl := lv_entry ([.ref h0, .int a1, .int a2, .int a3]) (n := 5) (Nat.le_of_ble_eq_true rfl)
  rw [lg_entry_eq]
  generalize (lg_sl ([.ref h0, .int a1, .int a2, .int a3]) ++ List.replicate (5 - (lg_sl ([.ref h0, .int a1, .int a2, .int a3])).length) Slot.unset).toArray = ls at hl ⊢
  have hl : lv_has ls 5 [(0, .ref h0), (1, .int a1), (2, .int a2), (3, .int a3)] := hl
  have X0 := X
  obtain ⟨k0, la, ta, ba, ra, sn, rd, dr, bl, vd, fb, k1, k2, k3, k4, k5, k6, c1, c2, c3, c4, t1, t2, t3, t4, g, bs, rs, e0, e1, u1, e2, u2, e3, u3, e4, u4, e5, fb1, e6, fr3, fr4, hT⟩ := X
  refine lv_aload_n hx hb dX8_part_0 rfl (lv_at hl 0 rfl) ?_
  refine lv_iload_n hx hb dX8_part_1 rfl (lv_at hl 1 rfl) ?_
  refine lv_iload_n hx hb dX8_part_2 rfl (lv_at hl 2 rfl) ?_
  refine va_csq (W.runV (As := [.int a1, .int a2]) (rest := []) ⟨hx, hb, hml, hown, hts⟩ (s_X8_vesselAt l D ws tys h0 k0 _ ta k2 c2 g t2 ba k3 c3 t3 a1 a2 e0 rfl e2 u2 rfl e3 u3) (cwV 2 hts gX8_part_X8_vesselAt rfl rfl rfl (by decide +kernel) ⟨Nat.le_of_ble_eq_true rfl, Nat.le_of_ble_eq_true rfl⟩) ⟨fun a U g mk q => ⟨q.1, q.2.1, va_K.moved (u := U) (U := U.calling g mk a) (Vm.Alike.refl U.vm) q.2.2⟩, va_recv hK hP (ci := 8) (q0 := k0) rfl e0, fun U hU hW => ⟨rfl, by rw [hU]; exact hP, va_K.moved hW.alike hK⟩⟩ rfl rfl hl.1 rfl (lv_room (Nat.le_of_ble_eq_true rfl)) dX8_part_3 ⟨Nat.le_of_ble_eq_true rfl, Nat.le_of_ble_eq_true rfl⟩) (fun r_1 k_2 => ?_)
  rcases k_2 with ⟨rfl, a_3o⟩ | ⟨z_5, a_3, b_4, k_2⟩
  · refine tp_v (y := .null) rfl ?_
    refine lv_astoreN (lv' := [(4, .null), (0, .ref h0), (1, .int a1), (2, .int a2), (3, .int a3)]) hx hb dX8_part_6 hl (by decide) rfl (fun ls hl => ?_)
    refine lv_aloadN hx hb dX8_part_8 (lv_at hl 0 rfl) ?_
    refine lv_ifnullN (tgt := 21) hx hb dX8_part_10 (by decide) ?_
    refine lv_iconst (v := (-1)) hx hb dX8_part_21 (by decide) ?_
    exact W.iret (v := (-1)) hx hb hr (fun t ht hW => ⟨(-1), rfl, (by rcases a_3o with a_3o | a_3o | a_3o <;> simp_all), ht⟩) (fun _ h9 => by cases h9) dX8_part_22
  obtain ⟨v_6, kv_7, gr_8, kg_9, ci_10, ti_11, gv_12, ev_13, eg_14, ut_15⟩ := hT a2.toNatClampNeg (i_cl a_3 b_4 (by decide) (by decide))
  rw [gv_12] at k_2
  subst k_2
  refine tp_v (y := .ref v_6) rfl ?_
  refine lv_astore (lv' := [(4, .ref v_6), (0, .ref h0), (1, .int a1), (2, .int a2), (3, .int a3)]) hx hb dX8_part_6 hl (by decide) rfl (fun ls hl => ?_)
  refine lv_aload hx hb dX8_part_8 (lv_at hl 0 rfl) ?_
  refine lv_ifnull hx hb dX8_part_10 ?_
  refine lv_aload_n hx hb dX8_part_13 rfl (lv_at hl 1 rfl) ?_
  refine lv_iload_n hx hb dX8_part_14 rfl (lv_at hl 4 rfl) ?_
  refine va_csq (W.runV (As := [.int a3]) (rest := []) ⟨hx, hb, hml, hown, hts⟩ (s_X8_lotAt l D ws tys h0 k0 _ la k1 c1 (fun _ => none) t1 a3 e0 rfl e1 u1) (cwV 1 hts gX8_part_X8_lotAt rfl rfl rfl (by decide +kernel) ⟨Nat.le_of_ble_eq_true rfl, Nat.le_of_ble_eq_true rfl⟩) ⟨fun a U g mk q => ⟨q.1, q.2.1, va_K.moved (u := U) (U := U.calling g mk a) (Vm.Alike.refl U.vm) q.2.2⟩, va_recv hK hP (ci := 8) (q0 := k0) rfl e0, fun U hU hW => ⟨rfl, by rw [hU]; exact hP, va_K.moved hW.alike hK⟩⟩ rfl rfl hl.1 rfl (lv_room (Nat.le_of_ble_eq_true rfl)) dX8_part_15 ⟨Nat.le_of_ble_eq_true rfl, Nat.le_of_ble_eq_true rfl⟩) (fun r_16 k_17 => ?_)
  obtain rfl : r_16 = none := by rcases k_17 with ⟨z_18, -⟩ | ⟨-, -, z_18⟩ <;> exact z_18
  refine tp_v (y := .null) rfl ?_
  refine lv_ifnonnullN hx hb dX8_part_18 ?_
  refine lv_iconst (v := (-1)) hx hb dX8_part_21 (by decide) ?_
  exact W.iret (v := (-1)) hx hb hr (fun t ht hW => ⟨(-1), rfl, (by first | rfl | (simp_all; done) | simp [z_5, a_3, b_4]), ht⟩) (fun _ h9 => by cases h9) dX8_part_22
set_option maxHeartbeats 4000000 in
set_option maxRecDepth 100000 in
theorem s_X8_isPollenLow (l : Launch) (a1 : Int32) : Met l yX8_isPollenLow wsX8_isPollenLow ({ frames := 1, cells := 0, slots := 0, locals := 22 }) (va_Pc [.int a1] (fun _ => True)) (vp_Si (fun r => r = 0 ∨ r = 1)) 0 0 (fun _ => False) := by
  refine Met.ofW (cc := cX8_isPollenLow) (maxL := 1) (ret := (some .boolean)) (by decide) rfl ?_
  intro p e s m args below meth c s₁ B hml hv
  obtain ⟨rfl, -⟩ := hv
  have hx := B.exec
  have hb := B.bytes
  have hr := B.returns
  have hts := atoms_spec (ws := wsX8_isPollenLow) B.pre
  have hown : s.vm.findClass RX8 = some m.cls := findClass_of_methodNamed B.named
  have hlocks := B.notSynchronized
  have hl := lv_entry ([.int a1]) (n := 1) (Nat.le_of_ble_eq_true rfl)
  rw [lg_entry_eq]
  generalize (lg_sl ([.int a1]) ++ List.replicate (1 - (lg_sl ([.int a1])).length) Slot.unset).toArray = ls at hl ⊢
  have hl : lv_has ls 1 [(0, .int a1)] := hl
  refine lv_iload_n hx hb dX8_isPollenLow_0 rfl (lv_at hl 0 rfl) ?_
  refine lv_bipush (v := 10) hx hb dX8_isPollenLow_1 (by decide) ?_
  refine lv_bipush (v := 14) hx hb dX8_isPollenLow_3 (by decide) ?_
  refine vp_callSi (W.runS (As := [.int a1, .int 10, .int 14]) (rest := []) ⟨hx, hb, hml, hown, hts⟩ (s_X8_isIn l a1 10 14) (va_cwS 3 hts gX8_isPollenLow_X8_isIn rfl rfl rfl (by decide +kernel) ⟨Nat.le_of_ble_eq_true rfl, Nat.le_of_ble_eq_true rfl⟩) ⟨fun a U g mk q => q, fun U hU hW => ⟨rfl, trivial⟩⟩ rfl rfl hl.1 rfl (lv_room (Nat.le_of_ble_eq_true rfl)) dX8_isPollenLow_5 ⟨Nat.le_of_ble_eq_true rfl, Nat.le_of_ble_eq_true rfl⟩) (fun r_1 k_2 => ?_)
  exact W.zret (v := r_1) hx hb hr (by rcases k_2 with ⟨rfl, -⟩ | ⟨rfl, -, -⟩ <;> rfl) (fun t ht hW => ⟨r_1, rfl, (by rcases k_2 with ⟨rfl, -⟩ | ⟨rfl, -, -⟩ <;> simp), ht⟩) (fun _ h9 => by cases h9) dX8_isPollenLow_8
set_option maxHeartbeats 4000000 in
set_option maxRecDepth 100000 in
theorem s_X8_isPollenHigh (l : Launch) (a1 : Int32) : Met l yX8_isPollenHigh wsX8_isPollenHigh ({ frames := 1, cells := 0, slots := 0, locals := 22 }) (va_Pc [.int a1] (fun _ => True)) (vp_Si (fun r => r = 0 ∨ r = 1)) 0 0 (fun _ => False) := by
  refine Met.ofW (cc := cX8_isPollenHigh) (maxL := 1) (ret := (some .boolean)) (by decide) rfl ?_
  intro p e s m args below meth c s₁ B hml hv
  obtain ⟨rfl, -⟩ := hv
  have hx := B.exec
  have hb := B.bytes
  have hr := B.returns
  have hts := atoms_spec (ws := wsX8_isPollenHigh) B.pre
  have hown : s.vm.findClass RX8 = some m.cls := findClass_of_methodNamed B.named
  have hlocks := B.notSynchronized
  have hl := lv_entry ([.int a1]) (n := 1) (Nat.le_of_ble_eq_true rfl)
  rw [lg_entry_eq]
  generalize (lg_sl ([.int a1]) ++ List.replicate (1 - (lg_sl ([.int a1])).length) Slot.unset).toArray = ls at hl ⊢
  have hl : lv_has ls 1 [(0, .int a1)] := hl
  refine lv_iload_n hx hb dX8_isPollenHigh_0 rfl (lv_at hl 0 rfl) ?_
  refine lv_bipush (v := 20) hx hb dX8_isPollenHigh_1 (by decide) ?_
  refine lv_bipush (v := 24) hx hb dX8_isPollenHigh_3 (by decide) ?_
  refine vp_callSi (W.runS (As := [.int a1, .int 20, .int 24]) (rest := []) ⟨hx, hb, hml, hown, hts⟩ (s_X8_isIn l a1 20 24) (va_cwS 3 hts gX8_isPollenHigh_X8_isIn rfl rfl rfl (by decide +kernel) ⟨Nat.le_of_ble_eq_true rfl, Nat.le_of_ble_eq_true rfl⟩) ⟨fun a U g mk q => q, fun U hU hW => ⟨rfl, trivial⟩⟩ rfl rfl hl.1 rfl (lv_room (Nat.le_of_ble_eq_true rfl)) dX8_isPollenHigh_5 ⟨Nat.le_of_ble_eq_true rfl, Nat.le_of_ble_eq_true rfl⟩) (fun r_1 k_2 => ?_)
  exact W.zret (v := r_1) hx hb hr (by rcases k_2 with ⟨rfl, -⟩ | ⟨rfl, -, -⟩ <;> rfl) (fun t ht hW => ⟨r_1, rfl, (by rcases k_2 with ⟨rfl, -⟩ | ⟨rfl, -, -⟩ <;> simp), ht⟩) (fun _ h9 => by cases h9) dX8_isPollenHigh_8
set_option maxHeartbeats 4000000 in
set_option maxRecDepth 100000 in
theorem s_X8_isMeasure (l : Launch) (a1 : Int32) : Met l yX8_isMeasure wsX8_isMeasure ({ frames := 2, cells := 0, slots := 0, locals := 42 }) (va_Pc [.int a1] (fun _ => True)) (vp_Si (fun r => r = 0 ∨ r = 1)) 0 0 (fun _ => False) := by
  refine Met.ofW (cc := cX8_isMeasure) (maxL := 1) (ret := (some .boolean)) (by decide) rfl ?_
  intro p e s m args below meth c s₁ B hml hv
  obtain ⟨rfl, -⟩ := hv
  have hx := B.exec
  have hb := B.bytes
  have hr := B.returns
  have hts := atoms_spec (ws := wsX8_isMeasure) B.pre
  have hown : s.vm.findClass RX8 = some m.cls := findClass_of_methodNamed B.named
  have hlocks := B.notSynchronized
  have hl := lv_entry ([.int a1]) (n := 1) (Nat.le_of_ble_eq_true rfl)
  rw [lg_entry_eq]
  generalize (lg_sl ([.int a1]) ++ List.replicate (1 - (lg_sl ([.int a1])).length) Slot.unset).toArray = ls at hl ⊢
  have hl : lv_has ls 1 [(0, .int a1)] := hl
  refine lv_iload_n hx hb dX8_isMeasure_0 rfl (lv_at hl 0 rfl) ?_
  refine lv_iconst (v := 0) hx hb dX8_isMeasure_1 (by decide) ?_
  refine lv_iconst (v := 2) hx hb dX8_isMeasure_2 (by decide) ?_
  refine vp_callSi (W.runS (As := [.int a1, .int 0, .int 2]) (rest := []) ⟨hx, hb, hml, hown, hts⟩ (s_X8_isIn l a1 0 2) (va_cwS 3 hts gX8_isMeasure_X8_isIn rfl rfl rfl (by decide +kernel) ⟨Nat.le_of_ble_eq_true rfl, Nat.le_of_ble_eq_true rfl⟩) ⟨fun a U g mk q => q, fun U hU hW => ⟨rfl, trivial⟩⟩ rfl rfl hl.1 rfl (lv_room (Nat.le_of_ble_eq_true rfl)) dX8_isMeasure_3 ⟨Nat.le_of_ble_eq_true rfl, Nat.le_of_ble_eq_true rfl⟩) (fun r_1 k_2 => ?_)
  rcases k_2 with ⟨rfl, -⟩ | ⟨rfl, -, -⟩
  · refine lv_if_ne (tgt := 34) hx hb dX8_isMeasure_6 (by decide) (fun c_3 => absurd (by decide) c_3) (fun c_3 => ?_)
    refine lv_iload_n hx hb dX8_isMeasure_9 rfl (lv_at hl 0 rfl) ?_
    refine vp_callSi (W.runS (As := [.int a1]) (rest := []) ⟨hx, hb, hml, hown, hts⟩ (s_X8_isPollenLow l a1) (va_cwS 1 hts gX8_isMeasure_X8_isPollenLow rfl rfl rfl (by decide +kernel) ⟨Nat.le_of_ble_eq_true rfl, Nat.le_of_ble_eq_true rfl⟩) ⟨fun a U g mk q => q, fun U hU hW => ⟨rfl, trivial⟩⟩ rfl rfl hl.1 rfl (lv_room (Nat.le_of_ble_eq_true rfl)) dX8_isMeasure_10 ⟨Nat.le_of_ble_eq_true rfl, Nat.le_of_ble_eq_true rfl⟩) (fun r_4 k_5 => ?_)
    rcases k_5 with rfl | rfl
    · refine lv_if_ne (tgt := 34) hx hb dX8_isMeasure_13 (by decide) (fun c_6 => absurd (by decide) c_6) (fun c_6 => ?_)
      refine lv_iload_n hx hb dX8_isMeasure_16 rfl (lv_at hl 0 rfl) ?_
      refine vp_callSi (W.runS (As := [.int a1]) (rest := []) ⟨hx, hb, hml, hown, hts⟩ (s_X8_isPollenHigh l a1) (va_cwS 1 hts gX8_isMeasure_X8_isPollenHigh rfl rfl rfl (by decide +kernel) ⟨Nat.le_of_ble_eq_true rfl, Nat.le_of_ble_eq_true rfl⟩) ⟨fun a U g mk q => q, fun U hU hW => ⟨rfl, trivial⟩⟩ rfl rfl hl.1 rfl (lv_room (Nat.le_of_ble_eq_true rfl)) dX8_isMeasure_17 ⟨Nat.le_of_ble_eq_true rfl, Nat.le_of_ble_eq_true rfl⟩) (fun r_7 k_8 => ?_)
      rcases k_8 with rfl | rfl
      · refine lv_if_ne (tgt := 34) hx hb dX8_isMeasure_20 (by decide) (fun c_9 => absurd (by decide) c_9) (fun c_9 => ?_)
        refine lv_iload_n hx hb dX8_isMeasure_23 rfl (lv_at hl 0 rfl) ?_
        refine lv_bipush (v := 30) hx hb dX8_isMeasure_24 (by decide) ?_
        refine lv_bipush (v := 33) hx hb dX8_isMeasure_26 (by decide) ?_
        refine vp_callSi (W.runS (As := [.int a1, .int 30, .int 33]) (rest := []) ⟨hx, hb, hml, hown, hts⟩ (s_X8_isIn l a1 30 33) (va_cwS 3 hts gX8_isMeasure_X8_isIn rfl rfl rfl (by decide +kernel) ⟨Nat.le_of_ble_eq_true rfl, Nat.le_of_ble_eq_true rfl⟩) ⟨fun a U g mk q => q, fun U hU hW => ⟨rfl, trivial⟩⟩ rfl rfl hl.1 rfl (lv_room (Nat.le_of_ble_eq_true rfl)) dX8_isMeasure_28 ⟨Nat.le_of_ble_eq_true rfl, Nat.le_of_ble_eq_true rfl⟩) (fun r_10 k_11 => ?_)
        rcases k_11 with ⟨rfl, -⟩ | ⟨rfl, -, -⟩
        · refine lv_if_eq (tgt := 38) hx hb dX8_isMeasure_31 (by decide) (fun c_12 => ?_) (fun c_12 => absurd (by decide) c_12)
          refine lv_iconst (v := 0) hx hb dX8_isMeasure_38 (by decide) ?_
          exact W.zret (v := 0) hx hb hr rfl (fun t ht hW => ⟨0, rfl, Or.inl rfl, ht⟩) (fun _ h9 => by cases h9) dX8_isMeasure_39
        refine lv_if_eq (tgt := 38) hx hb dX8_isMeasure_31 (by decide) (fun c_13 => absurd c_13 (by decide)) (fun c_13 => ?_)
        refine lv_iconst (v := 1) hx hb dX8_isMeasure_34 (by decide) ?_
        refine lv_goto (tgt := 39) hx hb dX8_isMeasure_35 (by decide) ?_
        exact W.zret (v := 1) hx hb hr rfl (fun t ht hW => ⟨1, rfl, Or.inr rfl, ht⟩) (fun _ h9 => by cases h9) dX8_isMeasure_39
      refine lv_if_ne (tgt := 34) hx hb dX8_isMeasure_20 (by decide) (fun c_14 => ?_) (fun c_14 => absurd c_14 (by decide))
      refine lv_iconst (v := 1) hx hb dX8_isMeasure_34 (by decide) ?_
      refine lv_goto (tgt := 39) hx hb dX8_isMeasure_35 (by decide) ?_
      exact W.zret (v := 1) hx hb hr rfl (fun t ht hW => ⟨1, rfl, Or.inr rfl, ht⟩) (fun _ h9 => by cases h9) dX8_isMeasure_39
    refine lv_if_ne (tgt := 34) hx hb dX8_isMeasure_13 (by decide) (fun c_15 => ?_) (fun c_15 => absurd c_15 (by decide))
    refine lv_iconst (v := 1) hx hb dX8_isMeasure_34 (by decide) ?_
    refine lv_goto (tgt := 39) hx hb dX8_isMeasure_35 (by decide) ?_
    exact W.zret (v := 1) hx hb hr rfl (fun t ht hW => ⟨1, rfl, Or.inr rfl, ht⟩) (fun _ h9 => by cases h9) dX8_isMeasure_39
  refine lv_if_ne (tgt := 34) hx hb dX8_isMeasure_6 (by decide) (fun c_16 => ?_) (fun c_16 => absurd c_16 (by decide))
  refine lv_iconst (v := 1) hx hb dX8_isMeasure_34 (by decide) ?_
  refine lv_goto (tgt := 39) hx hb dX8_isMeasure_35 (by decide) ?_
  exact W.zret (v := 1) hx hb hr rfl (fun t ht hW => ⟨1, rfl, Or.inr rfl, ht⟩) (fun _ h9 => by cases h9) dX8_isMeasure_39
set_option maxHeartbeats 4000000 in
set_option maxRecDepth 100000 in
theorem s_X8_told (l : Launch) (D : va_G) (ws : va_W) (tys : List (ClassId × FieldType)) (h0 v kv : Nat) (vs : List Value) (a2 : Int32) (ev : ws[kv]? = some (v, .inr (7, vs))) (v1 : vs[1]? = some (.int 0)) : Met l yX8_told wsX8_told ({ frames := 0, cells := 0, slots := 0, locals := 0 }) (va_Pc [.ref h0, .ref v, .int a2] (fun U => va_P D vwCl ws U.heap ∧ va_K D vwCl tys U)) (vp_Si (fun r => r = (-1))) 0 0 (fun _ => False) := by
  refine Met.ofW (cc := cX8_told) (maxL := 3) (ret := (some .int)) (by decide) rfl ?_
  intro p e s m args below meth c s₁ B hml hv
  obtain ⟨rfl, hP, hK⟩ := hv
  have hx := B.exec
  have hb := B.bytes
  have hr := B.returns
  have hts := atoms_spec (ws := wsX8_told) B.pre
  have hown : s.vm.findClass RX8 = some m.cls := findClass_of_methodNamed B.named
  have hlocks := B.notSynchronized
  have hin7 : ∀ w ∈ u_ws RX7 TX7 5, w ∈ wsX8_told := (fun _ h9 => List.mem_cons_of_mem _ (List.mem_append_left _ (List.mem_append_left _ ((List.mem_append_right _ h9)))))
  have hl := lv_entry ([.ref h0, .ref v, .int a2]) (n := 3) (Nat.le_of_ble_eq_true rfl)
  rw [lg_entry_eq]
  generalize (lg_sl ([.ref h0, .ref v, .int a2]) ++ List.replicate (3 - (lg_sl ([.ref h0, .ref v, .int a2])).length) Slot.unset).toArray = ls at hl ⊢
  have hl : lv_has ls 3 [(0, .ref h0), (1, .ref v), (2, .int a2)] := hl
  refine lv_aload_n hx hb dX8_told_0 rfl (lv_at hl 1 rfl) ?_
  refine va_get (D := D) (ci := 7) (v := .int 0) (C := RX7) (T := TX7) (N := 5) hx hb hts hin7 hown hK hP kv ev rfl 1 (by decide) (hts (.fieldLink RX8 144 "HoneyHouse$Vessel" "total" "I") (List.mem_of_getElem? (i := 1) rfl)) (fun _ h9 => h9) v1 dX8_told_1 ?_
  refine lv_if_gt (tgt := 9) hx hb dX8_told_4 (by decide) (fun c_1 => absurd c_1 (by decide)) (fun c_1 => ?_)
  refine lv_iconst (v := (-1)) hx hb dX8_told_7 (by decide) ?_
  exact W.iret (v := (-1)) hx hb hr (fun t ht hW => ⟨(-1), rfl, (by first | rfl | (simp_all; done) | simp [c_1]), ht⟩) (fun _ h9 => by cases h9) dX8_told_8
set_option maxHeartbeats 4000000 in
set_option maxRecDepth 100000 in
theorem s_X8_measure (l : Launch) (D : va_G) (ws : va_W) (tys : List (ClassId × FieldType)) (h0 : Nat) (X : XF ws tys h0) (a1 a2 a3 : Int32) : Met l yX8_measure wsX8_measure ({ frames := 3, cells := 0, slots := 0, locals := 65 }) (va_Pc [.ref h0, .int a1, .int a2, .int a3] (fun U => va_P D vwCl ws U.heap ∧ va_K D vwCl tys U)) (vp_Si (fun r => r = (-1))) 0 0 (fun _ => False) := by
  refine Met.ofW (cc := cX8_measure) (maxL := 5) (ret := (some .int)) (by decide) rfl ?_
  intro p e s m args below meth c s₁ B hml hv
  obtain ⟨rfl, hP, hK⟩ := hv
  have hx := B.exec
  have hb := B.bytes
  have hr := B.returns
  have hts := atoms_spec (ws := wsX8_measure) B.pre
  have hown : s.vm.findClass RX8 = some m.cls := findClass_of_methodNamed B.named
  have hlocks := B.notSynchronized
  have hl := lv_entry ([.ref h0, .int a1, .int a2, .int a3]) (n := 5) (Nat.le_of_ble_eq_true rfl)
  rw [lg_entry_eq]
  generalize (lg_sl ([.ref h0, .int a1, .int a2, .int a3]) ++ List.replicate (5 - (lg_sl ([.ref h0, .int a1, .int a2, .int a3])).length) Slot.unset).toArray = ls at hl ⊢
  have hl : lv_has ls 5 [(0, .ref h0), (1, .int a1), (2, .int a2), (3, .int a3)] := hl
  have X0 := X
  obtain ⟨k0, la, ta, ba, ra, sn, rd, dr, bl, vd, fb, k1, k2, k3, k4, k5, k6, c1, c2, c3, c4, t1, t2, t3, t4, g, bs, rs, e0, e1, u1, e2, u2, e3, u3, e4, u4, e5, fb1, e6, fr3, fr4, hT⟩ := X
  refine lv_aload_n hx hb dX8_measure_0 rfl (lv_at hl 0 rfl) ?_
  refine lv_iload_n hx hb dX8_measure_1 rfl (lv_at hl 1 rfl) ?_
  refine lv_iload_n hx hb dX8_measure_2 rfl (lv_at hl 2 rfl) ?_
  refine va_csq (W.runV (As := [.int a1, .int a2]) (rest := []) ⟨hx, hb, hml, hown, hts⟩ (s_X8_vesselAt l D ws tys h0 k0 _ ta k2 c2 g t2 ba k3 c3 t3 a1 a2 e0 rfl e2 u2 rfl e3 u3) (cwV 2 hts gX8_measure_X8_vesselAt rfl rfl rfl (by decide +kernel) ⟨Nat.le_of_ble_eq_true rfl, Nat.le_of_ble_eq_true rfl⟩) ⟨fun a U g mk q => ⟨q.1, q.2.1, va_K.moved (u := U) (U := U.calling g mk a) (Vm.Alike.refl U.vm) q.2.2⟩, va_recv hK hP (ci := 8) (q0 := k0) rfl e0, fun U hU hW => ⟨rfl, by rw [hU]; exact hP, va_K.moved hW.alike hK⟩⟩ rfl rfl hl.1 rfl (lv_room (Nat.le_of_ble_eq_true rfl)) dX8_measure_3 ⟨Nat.le_of_ble_eq_true rfl, Nat.le_of_ble_eq_true rfl⟩) (fun r_1 k_2 => ?_)
  rcases k_2 with ⟨rfl, a_3o⟩ | ⟨z_5, a_3, b_4, k_2⟩
  · refine tp_v (y := .null) rfl ?_
    refine lv_astoreN (lv' := [(4, .null), (0, .ref h0), (1, .int a1), (2, .int a2), (3, .int a3)]) hx hb dX8_measure_6 hl (by decide) rfl (fun ls hl => ?_)
    refine lv_aloadN hx hb dX8_measure_8 (lv_at hl 0 rfl) ?_
    refine lv_ifnullN (tgt := 20) hx hb dX8_measure_10 (by decide) ?_
    refine lv_iconst (v := (-1)) hx hb dX8_measure_20 (by decide) ?_
    exact W.iret (v := (-1)) hx hb hr (fun t ht hW => ⟨(-1), rfl, (by rcases a_3o with a_3o | a_3o | a_3o <;> simp_all), ht⟩) (fun _ h9 => by cases h9) dX8_measure_21
  obtain ⟨v_6, kv_7, gr_8, kg_9, ci_10, ti_11, gv_12, ev_13, eg_14, ut_15⟩ := hT a2.toNatClampNeg (i_cl a_3 b_4 (by decide) (by decide))
  rw [gv_12] at k_2
  subst k_2
  refine tp_v (y := .ref v_6) rfl ?_
  refine lv_astore (lv' := [(4, .ref v_6), (0, .ref h0), (1, .int a1), (2, .int a2), (3, .int a3)]) hx hb dX8_measure_6 hl (by decide) rfl (fun ls hl => ?_)
  refine lv_aload hx hb dX8_measure_8 (lv_at hl 0 rfl) ?_
  refine lv_ifnull hx hb dX8_measure_10 ?_
  refine lv_iload_n hx hb dX8_measure_13 rfl (lv_at hl 4 rfl) ?_
  refine vp_callSi (W.runS (As := [.int a3]) (rest := []) ⟨hx, hb, hml, hown, hts⟩ (s_X8_isMeasure l a3) (va_cwS 1 hts gX8_measure_X8_isMeasure rfl rfl rfl (by decide +kernel) ⟨Nat.le_of_ble_eq_true rfl, Nat.le_of_ble_eq_true rfl⟩) ⟨fun a U g mk q => q, fun U hU hW => ⟨rfl, trivial⟩⟩ rfl rfl hl.1 rfl (lv_room (Nat.le_of_ble_eq_true rfl)) dX8_measure_14 ⟨Nat.le_of_ble_eq_true rfl, Nat.le_of_ble_eq_true rfl⟩) (fun r_16 k_17 => ?_)
  rcases k_17 with rfl | rfl
  · refine lv_if_ne (tgt := 22) hx hb dX8_measure_17 (by decide) (fun c_18 => absurd (by decide) c_18) (fun c_18 => ?_)
    refine lv_iconst (v := (-1)) hx hb dX8_measure_20 (by decide) ?_
    exact W.iret (v := (-1)) hx hb hr (fun t ht hW => ⟨(-1), rfl, (by first | rfl | (simp_all; done) | simp [z_5, a_3, b_4, c_18]), ht⟩) (fun _ h9 => by cases h9) dX8_measure_21
  refine lv_if_ne (tgt := 22) hx hb dX8_measure_17 (by decide) (fun c_19 => ?_) (fun c_19 => absurd c_19 (by decide))
  refine lv_aload_n hx hb dX8_measure_22 rfl (lv_at hl 1 rfl) ?_
  refine lv_aload hx hb dX8_measure_23 (lv_at hl 0 rfl) ?_
  refine lv_iload_n hx hb dX8_measure_25 rfl (lv_at hl 4 rfl) ?_
  refine vp_callSi (W.runV (As := [.ref v_6, .int a3]) (rest := []) ⟨hx, hb, hml, hown, hts⟩ (s_X8_told l D ws tys h0 v_6 kv_7 _ a3 ev_13 rfl) (cwV 2 hts gX8_measure_X8_told rfl rfl rfl (by decide +kernel) ⟨Nat.le_of_ble_eq_true rfl, Nat.le_of_ble_eq_true rfl⟩) ⟨fun a U g mk q => ⟨q.1, q.2.1, va_K.moved (u := U) (U := U.calling g mk a) (Vm.Alike.refl U.vm) q.2.2⟩, va_recv hK hP (ci := 8) (q0 := k0) rfl e0, fun U hU hW => ⟨rfl, by rw [hU]; exact hP, va_K.moved hW.alike hK⟩⟩ rfl rfl hl.1 rfl (lv_room (Nat.le_of_ble_eq_true rfl)) dX8_measure_26 ⟨Nat.le_of_ble_eq_true rfl, Nat.le_of_ble_eq_true rfl⟩) (fun r_20 k_21 => ?_)
  subst k_21
  exact W.iret (v := (-1)) hx hb hr (fun t ht hW => ⟨(-1), rfl, (by first | rfl | (simp_all; done) | simp [z_5, a_3, b_4, c_19]), ht⟩) (fun _ h9 => by cases h9) dX8_measure_29
set_option maxHeartbeats 4000000 in
set_option maxRecDepth 100000 in
theorem s_X8_fault (l : Launch) (D : va_G) (ws : va_W) (tys : List (ClassId × FieldType)) (h0 : Nat) (X : XF ws tys h0) (a1 : Int32) : Met l yX8_fault wsX8_fault ({ frames := 0, cells := 0, slots := 0, locals := 0 }) (va_Pc [.ref h0, .int a1] (fun U => va_P D vwCl ws U.heap ∧ va_K D vwCl tys U)) (vp_Si (fun r => r = if a1 = 0 then 0 else (-1))) 0 0 (fun _ => False) := by
  refine Met.ofW (cc := cX8_fault) (maxL := 2) (ret := (some .int)) (by decide) rfl ?_
  intro p e s m args below meth c s₁ B hml hv
  obtain ⟨rfl, hP, hK⟩ := hv
  have hx := B.exec
  have hb := B.bytes
  have hr := B.returns
  have hts := atoms_spec (ws := wsX8_fault) B.pre
  have hown : s.vm.findClass RX8 = some m.cls := findClass_of_methodNamed B.named
  have hlocks := B.notSynchronized
  have hin4 : ∀ w ∈ u_ws RX4 TX4 8, w ∈ wsX8_fault := (fun _ h9 => List.mem_cons_of_mem _ ((List.mem_append_right _ h9)))
  have hin8 : ∀ w ∈ u_ws RX8 TX8 15, w ∈ wsX8_fault := (fun _ h9 => List.mem_cons_of_mem _ (List.mem_append_left _ ((List.mem_append_right _ h9))))
  have hl := lv_entry ([.ref h0, .int a1]) (n := 2) (Nat.le_of_ble_eq_true rfl)
  rw [lg_entry_eq]
  generalize (lg_sl ([.ref h0, .int a1]) ++ List.replicate (2 - (lg_sl ([.ref h0, .int a1])).length) Slot.unset).toArray = ls at hl ⊢
  have hl : lv_has ls 2 [(0, .ref h0), (1, .int a1)] := hl
  have X0 := X
  obtain ⟨k0, la, ta, ba, ra, sn, rd, dr, bl, vd, fb, k1, k2, k3, k4, k5, k6, c1, c2, c3, c4, t1, t2, t3, t4, g, bs, rs, e0, e1, u1, e2, u2, e3, u3, e4, u4, e5, fb1, e6, fr3, fr4, hT⟩ := X
  refine lv_iload_n hx hb dX8_fault_0 rfl (lv_at hl 1 rfl) ?_
  by_cases c_1 : a1 = 0
  · refine lv_lookup (off := 27) (tgt := 28) hx hb dX8_fault_1 (by decide) (by rw [c_1]; rfl) (by decide) ?_
    refine lv_aload_n hx hb dX8_fault_28 rfl (lv_at hl 0 rfl) ?_
    refine va_get (D := D) (ci := 8) (v := .ref rd) (C := RX8) (T := TX8) (N := 15) hx hb hts hin8 hown hK hP k0 e0 rfl 5 (by decide) (hts (.fieldLink RX8 40 "HoneyHouse" "reader" "LHoneyHouse$RuleReader;") (List.mem_of_getElem? (i := 1) rfl)) (fun _ h9 => h9) rfl dX8_fault_29 ?_
    refine va_get (D := D) (ci := 4) (v := .int 0) (C := RX4) (T := TX4) (N := 8) hx hb hts hin4 hown hK hP k6 e6 rfl 3 (by decide) (hts (.fieldLink RX8 213 "HoneyHouse$RuleReader" "faultKind" "I") (List.mem_of_getElem? (i := 2) rfl)) (fun _ h9 => h9) fr3 dX8_fault_32 ?_
    exact W.iret (v := 0) hx hb hr (fun t ht hW => ⟨0, rfl, (by first | rfl | (simp_all; done) | simp [c_1]), ht⟩) (fun _ h9 => by cases h9) dX8_fault_35
  by_cases c_2 : a1 = 1
  · refine lv_lookup (off := 35) (tgt := 36) hx hb dX8_fault_1 (by decide) (by rw [c_2]; rfl) (by decide) ?_
    refine lv_aload_n hx hb dX8_fault_36 rfl (lv_at hl 0 rfl) ?_
    refine va_get (D := D) (ci := 8) (v := .ref rd) (C := RX8) (T := TX8) (N := 15) hx hb hts hin8 hown hK hP k0 e0 rfl 5 (by decide) (hts (.fieldLink RX8 40 "HoneyHouse" "reader" "LHoneyHouse$RuleReader;") (List.mem_of_getElem? (i := 1) rfl)) (fun _ h9 => h9) rfl dX8_fault_37 ?_
    refine va_get (D := D) (ci := 4) (v := .int (-1)) (C := RX4) (T := TX4) (N := 8) hx hb hts hin4 hown hK hP k6 e6 rfl 4 (by decide) (hts (.fieldLink RX8 216 "HoneyHouse$RuleReader" "faultPlace" "I") (List.mem_of_getElem? (i := 3) rfl)) (fun _ h9 => h9) fr4 dX8_fault_40 ?_
    exact W.iret (v := (-1)) hx hb hr (fun t ht hW => ⟨(-1), rfl, (by first | rfl | (simp_all; done) | simp [c_1, c_2]), ht⟩) (fun _ h9 => by cases h9) dX8_fault_43
  have nc_1 := lv_neT c_1 (a := 0) (by decide)
  have nc_2 := lv_neT c_2 (a := 1) (by decide)
  refine lv_lookup (off := 43) (tgt := 44) hx hb dX8_fault_1 (by decide) (by rw [lv_osw c_1 (by decide), lv_osw c_2 (by decide)]; rfl) (by decide) ?_
  refine lv_iconst (v := (-1)) hx hb dX8_fault_44 (by decide) ?_
  exact W.iret (v := (-1)) hx hb hr (fun t ht hW => ⟨(-1), rfl, (by first | rfl | (simp_all; done) | simp [c_1, c_2]), ht⟩) (fun _ h9 => by cases h9) dX8_fault_45
set_option maxHeartbeats 4000000 in
set_option maxRecDepth 100000 in
theorem s_X8_shut (l : Launch) (D : va_G) (ws : va_W) (tys : List (ClassId × FieldType)) (h0 : Nat) (X : XF ws tys h0) (a1 a2 : Int32) : Met l yX8_shut wsX8_shut ({ frames := 2, cells := 0, slots := 0, locals := 43 }) (va_Pc [.ref h0, .int a1, .int a2] (fun U => va_P D vwCl ws U.heap ∧ va_K D vwCl tys U)) (vp_Si (fun r => r = 0)) 0 0 (fun _ => False) := by
  refine Met.ofW (cc := cX8_shut) (maxL := 4) (ret := (some .boolean)) (by decide) rfl ?_
  intro p e s m args below meth c s₁ B hml hv
  obtain ⟨rfl, hP, hK⟩ := hv
  have hx := B.exec
  have hb := B.bytes
  have hr := B.returns
  have hts := atoms_spec (ws := wsX8_shut) B.pre
  have hown : s.vm.findClass RX8 = some m.cls := findClass_of_methodNamed B.named
  have hlocks := B.notSynchronized
  have hl := lv_entry ([.ref h0, .int a1, .int a2]) (n := 4) (Nat.le_of_ble_eq_true rfl)
  rw [lg_entry_eq]
  generalize (lg_sl ([.ref h0, .int a1, .int a2]) ++ List.replicate (4 - (lg_sl ([.ref h0, .int a1, .int a2])).length) Slot.unset).toArray = ls at hl ⊢
  have hl : lv_has ls 4 [(0, .ref h0), (1, .int a1), (2, .int a2)] := hl
  have X0 := X
  obtain ⟨k0, la, ta, ba, ra, sn, rd, dr, bl, vd, fb, k1, k2, k3, k4, k5, k6, c1, c2, c3, c4, t1, t2, t3, t4, g, bs, rs, e0, e1, u1, e2, u2, e3, u3, e4, u4, e5, fb1, e6, fr3, fr4, hT⟩ := X
  refine lv_aload_n hx hb dX8_shut_0 rfl (lv_at hl 0 rfl) ?_
  refine lv_iload_n hx hb dX8_shut_1 rfl (lv_at hl 1 rfl) ?_
  refine va_csq (W.runV (As := [.int a1]) (rest := []) ⟨hx, hb, hml, hown, hts⟩ (s_X8_ruleAt l D ws tys h0 k0 _ ra k4 c4 (fun _ => none) t4 a1 e0 rfl e4 u4) (cwV 1 hts gX8_shut_X8_ruleAt rfl rfl rfl (by decide +kernel) ⟨Nat.le_of_ble_eq_true rfl, Nat.le_of_ble_eq_true rfl⟩) ⟨fun a U g mk q => ⟨q.1, q.2.1, va_K.moved (u := U) (U := U.calling g mk a) (Vm.Alike.refl U.vm) q.2.2⟩, va_recv hK hP (ci := 8) (q0 := k0) rfl e0, fun U hU hW => ⟨rfl, by rw [hU]; exact hP, va_K.moved hW.alike hK⟩⟩ rfl rfl hl.1 rfl (lv_room (Nat.le_of_ble_eq_true rfl)) dX8_shut_2 ⟨Nat.le_of_ble_eq_true rfl, Nat.le_of_ble_eq_true rfl⟩) (fun r_1 k_2 => ?_)
  obtain rfl : r_1 = none := by rcases k_2 with ⟨z_3, -⟩ | ⟨-, -, z_3⟩ <;> exact z_3
  refine tp_v (y := .null) rfl ?_
  refine lv_astore_nN (lv' := [(3, .null), (0, .ref h0), (1, .int a1), (2, .int a2)]) hx hb dX8_shut_5 rfl hl (by decide) rfl (fun ls hl => ?_)
  refine lv_aload_nN hx hb dX8_shut_6 rfl (lv_at hl 0 rfl) ?_
  refine lv_ifnullN (tgt := 25) hx hb dX8_shut_7 (by decide) ?_
  refine lv_iconst (v := 0) hx hb dX8_shut_25 (by decide) ?_
  exact W.zret (v := 0) hx hb hr rfl (fun t ht hW => ⟨0, rfl, rfl, ht⟩) (fun _ h9 => by cases h9) dX8_shut_26
set_option maxHeartbeats 4000000 in
set_option maxRecDepth 100000 in
theorem s_X8_says (l : Launch) (D : va_G) (ws : va_W) (tys : List (ClassId × FieldType)) (h0 : Nat) (X : XF ws tys h0) (a1 a2 a3 : Int32) : Met l yX8_says wsX8_says ({ frames := 3, cells := 0, slots := 0, locals := 65 }) (va_Pc [.ref h0, .int a1, .int a2, .int a3] (fun U => va_P D vwCl ws U.heap ∧ va_K D vwCl tys U)) (vp_Si (fun r => r = (-1))) 0 0 (fun _ => False) := by
  refine Met.ofW (cc := cX8_says) (maxL := 6) (ret := (some .int)) (by decide) rfl ?_
  intro p e s m args below meth c s₁ B hml hv
  obtain ⟨rfl, hP, hK⟩ := hv
  have hx := B.exec
  have hb := B.bytes
  have hr := B.returns
  have hts := atoms_spec (ws := wsX8_says) B.pre
  have hown : s.vm.findClass RX8 = some m.cls := findClass_of_methodNamed B.named
  have hlocks := B.notSynchronized
  have hl := lv_entry ([.ref h0, .int a1, .int a2, .int a3]) (n := 6) (Nat.le_of_ble_eq_true rfl)
  rw [lg_entry_eq]
  generalize (lg_sl ([.ref h0, .int a1, .int a2, .int a3]) ++ List.replicate (6 - (lg_sl ([.ref h0, .int a1, .int a2, .int a3])).length) Slot.unset).toArray = ls at hl ⊢
  have hl : lv_has ls 6 [(0, .ref h0), (1, .int a1), (2, .int a2), (3, .int a3)] := hl
  have X0 := X
  obtain ⟨k0, la, ta, ba, ra, sn, rd, dr, bl, vd, fb, k1, k2, k3, k4, k5, k6, c1, c2, c3, c4, t1, t2, t3, t4, g, bs, rs, e0, e1, u1, e2, u2, e3, u3, e4, u4, e5, fb1, e6, fr3, fr4, hT⟩ := X
  refine lv_aload_n hx hb dX8_says_0 rfl (lv_at hl 0 rfl) ?_
  refine lv_iload_n hx hb dX8_says_1 rfl (lv_at hl 1 rfl) ?_
  refine va_csq (W.runV (As := [.int a1]) (rest := []) ⟨hx, hb, hml, hown, hts⟩ (s_X8_ruleAt l D ws tys h0 k0 _ ra k4 c4 (fun _ => none) t4 a1 e0 rfl e4 u4) (cwV 1 hts gX8_says_X8_ruleAt rfl rfl rfl (by decide +kernel) ⟨Nat.le_of_ble_eq_true rfl, Nat.le_of_ble_eq_true rfl⟩) ⟨fun a U g mk q => ⟨q.1, q.2.1, va_K.moved (u := U) (U := U.calling g mk a) (Vm.Alike.refl U.vm) q.2.2⟩, va_recv hK hP (ci := 8) (q0 := k0) rfl e0, fun U hU hW => ⟨rfl, by rw [hU]; exact hP, va_K.moved hW.alike hK⟩⟩ rfl rfl hl.1 rfl (lv_room (Nat.le_of_ble_eq_true rfl)) dX8_says_2 ⟨Nat.le_of_ble_eq_true rfl, Nat.le_of_ble_eq_true rfl⟩) (fun r_1 k_2 => ?_)
  obtain rfl : r_1 = none := by rcases k_2 with ⟨z_3, -⟩ | ⟨-, -, z_3⟩ <;> exact z_3
  refine tp_v (y := .null) rfl ?_
  refine lv_astoreN (lv' := [(4, .null), (0, .ref h0), (1, .int a1), (2, .int a2), (3, .int a3)]) hx hb dX8_says_5 hl (by decide) rfl (fun ls hl => ?_)
  refine lv_aload_n hx hb dX8_says_7 rfl (lv_at hl 1 rfl) ?_
  refine lv_iload_n hx hb dX8_says_8 rfl (lv_at hl 3 rfl) ?_
  refine lv_iload_n hx hb dX8_says_9 rfl (lv_at hl 4 rfl) ?_
  refine va_csq (W.runV (As := [.int a2, .int a3]) (rest := []) ⟨hx, hb, hml, hown, hts⟩ (s_X8_vesselAt l D ws tys h0 k0 _ ta k2 c2 g t2 ba k3 c3 t3 a2 a3 e0 rfl e2 u2 rfl e3 u3) (cwV 2 hts gX8_says_X8_vesselAt rfl rfl rfl (by decide +kernel) ⟨Nat.le_of_ble_eq_true rfl, Nat.le_of_ble_eq_true rfl⟩) ⟨fun a U g mk q => ⟨q.1, q.2.1, va_K.moved (u := U) (U := U.calling g mk a) (Vm.Alike.refl U.vm) q.2.2⟩, va_recv hK hP (ci := 8) (q0 := k0) rfl e0, fun U hU hW => ⟨rfl, by rw [hU]; exact hP, va_K.moved hW.alike hK⟩⟩ rfl rfl hl.1 rfl (lv_room (Nat.le_of_ble_eq_true rfl)) dX8_says_10 ⟨Nat.le_of_ble_eq_true rfl, Nat.le_of_ble_eq_true rfl⟩) (fun r_4 k_5 => ?_)
  rcases k_5 with ⟨rfl, a_6o⟩ | ⟨z_8, a_6, b_7, k_5⟩
  · refine tp_v (y := .null) rfl ?_
    refine lv_astoreN (lv' := [(5, .null), (4, .null), (0, .ref h0), (1, .int a1), (2, .int a2), (3, .int a3)]) hx hb dX8_says_13 hl (by decide) rfl (fun ls hl => ?_)
    refine lv_aloadN hx hb dX8_says_15 (lv_at hl 1 rfl) ?_
    refine lv_ifnullN (tgt := 33) hx hb dX8_says_17 (by decide) ?_
    refine lv_iconst (v := (-1)) hx hb dX8_says_33 (by decide) ?_
    exact W.iret (v := (-1)) hx hb hr (fun t ht hW => ⟨(-1), rfl, (by rcases a_6o with a_6o | a_6o | a_6o <;> simp_all), ht⟩) (fun _ h9 => by cases h9) dX8_says_34
  obtain ⟨v_9, kv_10, gr_11, kg_12, ci_13, ti_14, gv_15, ev_16, eg_17, ut_18⟩ := hT a3.toNatClampNeg (i_cl a_6 b_7 (by decide) (by decide))
  rw [gv_15] at k_5
  subst k_5
  refine tp_v (y := .ref v_9) rfl ?_
  refine lv_astore (lv' := [(5, .ref v_9), (4, .null), (0, .ref h0), (1, .int a1), (2, .int a2), (3, .int a3)]) hx hb dX8_says_13 hl (by decide) rfl (fun ls hl => ?_)
  refine lv_aloadN hx hb dX8_says_15 (lv_at hl 1 rfl) ?_
  refine lv_ifnullN (tgt := 33) hx hb dX8_says_17 (by decide) ?_
  refine lv_iconst (v := (-1)) hx hb dX8_says_33 (by decide) ?_
  exact W.iret (v := (-1)) hx hb hr (fun t ht hW => ⟨(-1), rfl, (by first | rfl | (simp_all; done) | simp [z_8, a_6, b_7]), ht⟩) (fun _ h9 => by cases h9) dX8_says_34
set_option maxHeartbeats 4000000 in
set_option maxRecDepth 100000 in
theorem s_X8_name (l : Launch) (D : va_G) (ws : va_W) (tys : List (ClassId × FieldType)) (h0 : Nat) (X : XF ws tys h0) (a1 a2 a3 : Int32) : Met l yX8_name wsX8_name ({ frames := 3, cells := 0, slots := 0, locals := 65 }) (va_Pc [.ref h0, .int a1, .int a2, .int a3] (fun U => va_P D vwCl ws U.heap ∧ va_K D vwCl tys U)) (vp_Si (fun r => r = (-1))) 0 0 (fun _ => False) := by
  refine Met.ofW (cc := cX8_name) (maxL := 7) (ret := (some .int)) (by decide) rfl ?_
  intro p e s m args below meth c s₁ B hml hv
  obtain ⟨rfl, hP, hK⟩ := hv
  have hx := B.exec
  have hb := B.bytes
  have hr := B.returns
  have hts := atoms_spec (ws := wsX8_name) B.pre
  have hown : s.vm.findClass RX8 = some m.cls := findClass_of_methodNamed B.named
  have hlocks := B.notSynchronized
  have hin7 : ∀ w ∈ u_ws RX7 TX7 5, w ∈ wsX8_name := (fun _ h9 => List.mem_cons_of_mem _ (List.mem_append_left _ (List.mem_append_left _ (List.mem_append_left _ ((List.mem_append_right _ h9))))))
  have hl := lv_entry ([.ref h0, .int a1, .int a2, .int a3]) (n := 7) (Nat.le_of_ble_eq_true rfl)
  rw [lg_entry_eq]
  generalize (lg_sl ([.ref h0, .int a1, .int a2, .int a3]) ++ List.replicate (7 - (lg_sl ([.ref h0, .int a1, .int a2, .int a3])).length) Slot.unset).toArray = ls at hl ⊢
  have hl : lv_has ls 7 [(0, .ref h0), (1, .int a1), (2, .int a2), (3, .int a3)] := hl
  have X0 := X
  obtain ⟨k0, la, ta, ba, ra, sn, rd, dr, bl, vd, fb, k1, k2, k3, k4, k5, k6, c1, c2, c3, c4, t1, t2, t3, t4, g, bs, rs, e0, e1, u1, e2, u2, e3, u3, e4, u4, e5, fb1, e6, fr3, fr4, hT⟩ := X
  refine lv_aload_n hx hb dX8_name_0 rfl (lv_at hl 0 rfl) ?_
  refine lv_iload_n hx hb dX8_name_1 rfl (lv_at hl 1 rfl) ?_
  refine lv_iload_n hx hb dX8_name_2 rfl (lv_at hl 2 rfl) ?_
  refine va_csq (W.runV (As := [.int a1, .int a2]) (rest := []) ⟨hx, hb, hml, hown, hts⟩ (s_X8_vesselAt l D ws tys h0 k0 _ ta k2 c2 g t2 ba k3 c3 t3 a1 a2 e0 rfl e2 u2 rfl e3 u3) (cwV 2 hts gX8_name_X8_vesselAt rfl rfl rfl (by decide +kernel) ⟨Nat.le_of_ble_eq_true rfl, Nat.le_of_ble_eq_true rfl⟩) ⟨fun a U g mk q => ⟨q.1, q.2.1, va_K.moved (u := U) (U := U.calling g mk a) (Vm.Alike.refl U.vm) q.2.2⟩, va_recv hK hP (ci := 8) (q0 := k0) rfl e0, fun U hU hW => ⟨rfl, by rw [hU]; exact hP, va_K.moved hW.alike hK⟩⟩ rfl rfl hl.1 rfl (lv_room (Nat.le_of_ble_eq_true rfl)) dX8_name_3 ⟨Nat.le_of_ble_eq_true rfl, Nat.le_of_ble_eq_true rfl⟩) (fun r_1 k_2 => ?_)
  rcases k_2 with ⟨rfl, a_3o⟩ | ⟨z_5, a_3, b_4, k_2⟩
  · refine tp_v (y := .null) rfl ?_
    refine lv_astoreN (lv' := [(4, .null), (0, .ref h0), (1, .int a1), (2, .int a2), (3, .int a3)]) hx hb dX8_name_6 hl (by decide) rfl (fun ls hl => ?_)
    refine lv_aloadN hx hb dX8_name_8 (lv_at hl 0 rfl) ?_
    refine lv_ifnullN (tgt := 21) hx hb dX8_name_10 (by decide) ?_
    refine lv_iconst (v := (-1)) hx hb dX8_name_21 (by decide) ?_
    exact W.iret (v := (-1)) hx hb hr (fun t ht hW => ⟨(-1), rfl, (by rcases a_3o with a_3o | a_3o | a_3o <;> simp_all), ht⟩) (fun _ h9 => by cases h9) dX8_name_22
  obtain ⟨v_6, kv_7, gr_8, kg_9, ci_10, ti_11, gv_12, ev_13, eg_14, ut_15⟩ := hT a2.toNatClampNeg (i_cl a_3 b_4 (by decide) (by decide))
  rw [gv_12] at k_2
  subst k_2
  refine tp_v (y := .ref v_6) rfl ?_
  refine lv_astore (lv' := [(4, .ref v_6), (0, .ref h0), (1, .int a1), (2, .int a2), (3, .int a3)]) hx hb dX8_name_6 hl (by decide) rfl (fun ls hl => ?_)
  refine lv_aload hx hb dX8_name_8 (lv_at hl 0 rfl) ?_
  refine lv_ifnull hx hb dX8_name_10 ?_
  refine lv_aload hx hb dX8_name_13 (lv_at hl 0 rfl) ?_
  refine va_get (D := D) (ci := 7) (v := .int 0) (C := RX7) (T := TX7) (N := 5) hx hb hts hin7 hown hK hP kv_7 ev_13 rfl 1 (by decide) (hts (.fieldLink RX8 144 "HoneyHouse$Vessel" "total" "I") (List.mem_of_getElem? (i := 1) rfl)) (fun _ h9 => h9) rfl dX8_name_15 ?_
  refine lv_if_ne (tgt := 23) hx hb dX8_name_18 (by decide) (fun c_16 => absurd (by decide) c_16) (fun c_16 => ?_)
  refine lv_iconst (v := (-1)) hx hb dX8_name_21 (by decide) ?_
  exact W.iret (v := (-1)) hx hb hr (fun t ht hW => ⟨(-1), rfl, (by first | rfl | (simp_all; done) | simp [z_5, a_3, b_4, c_16]), ht⟩) (fun _ h9 => by cases h9) dX8_name_22
set_option maxHeartbeats 4000000 in
set_option maxRecDepth 100000 in
theorem s_X8_parts (l : Launch) (D : va_G) (ws : va_W) (tys : List (ClassId × FieldType)) (h0 : Nat) (X : XF ws tys h0) (a1 : Int32) : Met l yX8_parts wsX8_parts ({ frames := 2, cells := 0, slots := 0, locals := 43 }) (va_Pc [.ref h0, .int a1] (fun U => va_P D vwCl ws U.heap ∧ va_K D vwCl tys U)) (vp_Si (fun r => r = (-1))) 0 0 (fun _ => False) := by
  refine Met.ofW (cc := cX8_parts) (maxL := 2) (ret := (some .int)) (by decide) rfl ?_
  intro p e s m args below meth c s₁ B hml hv
  obtain ⟨rfl, hP, hK⟩ := hv
  have hx := B.exec
  have hb := B.bytes
  have hr := B.returns
  have hts := atoms_spec (ws := wsX8_parts) B.pre
  have hown : s.vm.findClass RX8 = some m.cls := findClass_of_methodNamed B.named
  have hlocks := B.notSynchronized
  have hin0 : ∀ w ∈ u_ws RX0 TX0 14, w ∈ wsX8_parts := (fun _ h9 => List.mem_cons_of_mem _ ((List.mem_append_right _ h9)))
  have hin8 : ∀ w ∈ u_ws RX8 TX8 15, w ∈ wsX8_parts := (fun _ h9 => List.mem_cons_of_mem _ (List.mem_append_left _ ((List.mem_append_right _ h9))))
  have hl := lv_entry ([.ref h0, .int a1]) (n := 2) (Nat.le_of_ble_eq_true rfl)
  rw [lg_entry_eq]
  generalize (lg_sl ([.ref h0, .int a1]) ++ List.replicate (2 - (lg_sl ([.ref h0, .int a1])).length) Slot.unset).toArray = ls at hl ⊢
  have hl : lv_has ls 2 [(0, .ref h0), (1, .int a1)] := hl
  have X0 := X
  obtain ⟨k0, la, ta, ba, ra, sn, rd, dr, bl, vd, fb, k1, k2, k3, k4, k5, k6, c1, c2, c3, c4, t1, t2, t3, t4, g, bs, rs, e0, e1, u1, e2, u2, e3, u3, e4, u4, e5, fb1, e6, fr3, fr4, hT⟩ := X
  refine lv_aload_n hx hb dX8_parts_0 rfl (lv_at hl 0 rfl) ?_
  refine lv_iload_n hx hb dX8_parts_1 rfl (lv_at hl 1 rfl) ?_
  refine va_csq (W.runV (As := [.int a1]) (rest := []) ⟨hx, hb, hml, hown, hts⟩ (s_X8_tankAt l D ws tys h0 k0 _ ta k2 c2 g t2 a1 e0 rfl e2 u2) (cwV 1 hts gX8_parts_X8_tankAt rfl rfl rfl (by decide +kernel) ⟨Nat.le_of_ble_eq_true rfl, Nat.le_of_ble_eq_true rfl⟩) ⟨fun a U g mk q => ⟨q.1, q.2.1, va_K.moved (u := U) (U := U.calling g mk a) (Vm.Alike.refl U.vm) q.2.2⟩, va_recv hK hP (ci := 8) (q0 := k0) rfl e0, fun U hU hW => ⟨rfl, by rw [hU]; exact hP, va_K.moved hW.alike hK⟩⟩ rfl rfl hl.1 rfl (lv_room (Nat.le_of_ble_eq_true rfl)) dX8_parts_2 ⟨Nat.le_of_ble_eq_true rfl, Nat.le_of_ble_eq_true rfl⟩) (fun r_1 k_2 => ?_)
  rcases k_2 with ⟨rfl, a_3o⟩ | ⟨a_3, b_4, k_2⟩
  · refine tp_v (y := .null) rfl ?_
    refine lv_ifnullN (tgt := 18) hx hb dX8_parts_5 (by decide) ?_
    refine lv_iconst (v := (-1)) hx hb dX8_parts_18 (by decide) ?_
    exact W.iret (v := (-1)) hx hb hr (fun t ht hW => ⟨(-1), rfl, (by rcases a_3o with a_3o | a_3o <;> simp_all), ht⟩) (fun _ h9 => by cases h9) dX8_parts_19
  obtain ⟨v_5, kv_6, gr_7, kg_8, ci_9, ti_10, gv_11, ev_12, eg_13, ut_14⟩ := hT a1.toNatClampNeg (i_cl a_3 b_4 (by decide) (by decide))
  rw [gv_11] at k_2
  subst k_2
  refine tp_v (y := .ref v_5) rfl ?_
  refine lv_ifnull hx hb dX8_parts_5 ?_
  refine lv_aload_n hx hb dX8_parts_8 rfl (lv_at hl 0 rfl) ?_
  refine va_get (D := D) (ci := 8) (v := .ref bl) (C := RX8) (T := TX8) (N := 15) hx hb hts hin8 hown hK hP k0 e0 rfl 7 (by decide) (hts (.fieldLink RX8 54 "HoneyHouse" "blender" "LHoneyHouse$Blender;") (List.mem_of_getElem? (i := 1) rfl)) (fun _ h9 => h9) rfl dX8_parts_9 ?_
  refine va_get (D := D) (ci := 0) (v := .int 0) (C := RX0) (T := TX0) (N := 14) hx hb hts hin0 hown hK hP k5 e5 rfl 1 (by decide) (hts (.fieldLink RX8 266 "HoneyHouse$Blender" "hasTold" "Z") (List.mem_of_getElem? (i := 2) rfl)) (fun _ h9 => h9) fb1 dX8_parts_12 ?_
  refine lv_if_ne (tgt := 20) hx hb dX8_parts_15 (by decide) (fun c_15 => absurd (by decide) c_15) (fun c_15 => ?_)
  refine lv_iconst (v := (-1)) hx hb dX8_parts_18 (by decide) ?_
  exact W.iret (v := (-1)) hx hb hr (fun t ht hW => ⟨(-1), rfl, (by first | rfl | (simp_all; done) | simp [a_3, b_4, c_15]), ht⟩) (fun _ h9 => by cases h9) dX8_parts_19
set_option maxHeartbeats 4000000 in
set_option maxRecDepth 100000 in
theorem s_X8_found (l : Launch) (D : va_G) (ws : va_W) (tys : List (ClassId × FieldType)) (h0 : Nat) (X : XF ws tys h0) (a1 : Int32) : Met l yX8_found wsX8_found ({ frames := 1, cells := 0, slots := 0, locals := 22 }) (va_Pc [.ref h0, .int a1] (fun U => va_P D vwCl ws U.heap ∧ va_K D vwCl tys U)) (vp_Si (fun r => r = (-1))) 0 0 (fun _ => False) := by
  refine Met.ofW (cc := cX8_found) (maxL := 2) (ret := (some .int)) (by decide) rfl ?_
  intro p e s m args below meth c s₁ B hml hv
  obtain ⟨rfl, hP, hK⟩ := hv
  have hx := B.exec
  have hb := B.bytes
  have hr := B.returns
  have hts := atoms_spec (ws := wsX8_found) B.pre
  have hown : s.vm.findClass RX8 = some m.cls := findClass_of_methodNamed B.named
  have hlocks := B.notSynchronized
  have hin8 : ∀ w ∈ u_ws RX8 TX8 15, w ∈ wsX8_found := (fun _ h9 => List.mem_cons_of_mem _ ((List.mem_append_right _ h9)))
  have hl := lv_entry ([.ref h0, .int a1]) (n := 2) (Nat.le_of_ble_eq_true rfl)
  rw [lg_entry_eq]
  generalize (lg_sl ([.ref h0, .int a1]) ++ List.replicate (2 - (lg_sl ([.ref h0, .int a1])).length) Slot.unset).toArray = ls at hl ⊢
  have hl : lv_has ls 2 [(0, .ref h0), (1, .int a1)] := hl
  have X0 := X
  obtain ⟨k0, la, ta, ba, ra, sn, rd, dr, bl, vd, fb, k1, k2, k3, k4, k5, k6, c1, c2, c3, c4, t1, t2, t3, t4, g, bs, rs, e0, e1, u1, e2, u2, e3, u3, e4, u4, e5, fb1, e6, fr3, fr4, hT⟩ := X
  refine lv_iload_n hx hb dX8_found_0 rfl (lv_at hl 1 rfl) ?_
  refine lv_iconst (v := 0) hx hb dX8_found_1 (by decide) ?_
  refine lv_aload_n hx hb dX8_found_2 rfl (lv_at hl 0 rfl) ?_
  refine va_get (D := D) (ci := 8) (v := .int 0) (C := RX8) (T := TX8) (N := 15) hx hb hts hin8 hown hK hP k0 e0 rfl 13 (by decide) (hts (.fieldLink RX8 272 "HoneyHouse" "foundCount" "I") (List.mem_of_getElem? (i := 1) rfl)) (fun _ h9 => h9) rfl dX8_found_3 ?_
  refine lv_iconst (v := 1) hx hb dX8_found_6 (by decide) ?_
  refine lv_isub hx hb dX8_found_7 ?_
  refine tp_i (y := (-1)) (by decide) ?_
  refine vp_callSi (W.runS (As := [.int a1, .int 0, .int (-1)]) (rest := []) ⟨hx, hb, hml, hown, hts⟩ (s_X8_isIn l a1 0 (-1)) (va_cwS 3 hts gX8_found_X8_isIn rfl rfl rfl (by decide +kernel) ⟨Nat.le_of_ble_eq_true rfl, Nat.le_of_ble_eq_true rfl⟩) ⟨fun a U g mk q => q, fun U hU hW => ⟨rfl, trivial⟩⟩ rfl rfl hl.1 rfl (lv_room (Nat.le_of_ble_eq_true rfl)) dX8_found_8 ⟨Nat.le_of_ble_eq_true rfl, Nat.le_of_ble_eq_true rfl⟩) (fun r_1 k_2 => ?_)
  rcases (or_comm.mp k_2) with ⟨rfl, a_3, b_4⟩ | ⟨rfl, -⟩
  · exact absurd (i_m1 a_3) b_4
  refine lv_if_eq (tgt := 23) hx hb dX8_found_11 (by decide) (fun c_5 => ?_) (fun c_5 => absurd (by decide) c_5)
  refine lv_iconst (v := (-1)) hx hb dX8_found_23 (by decide) ?_
  exact W.iret (v := (-1)) hx hb hr (fun t ht hW => ⟨(-1), rfl, (by first | rfl | (simp_all; done) | simp [c_5]), ht⟩) (fun _ h9 => by cases h9) dX8_found_24
set_option maxHeartbeats 4000000 in
set_option maxRecDepth 100000 in
theorem s_X8_count (l : Launch) (D : va_G) (ws : va_W) (tys : List (ClassId × FieldType)) (h0 : Nat) (X : XF ws tys h0) (a1 : Int32) : Met l yX8_count wsX8_count ({ frames := 0, cells := 0, slots := 0, locals := 0 }) (va_Pc [.ref h0, .int a1] (fun U => va_P D vwCl ws U.heap ∧ va_K D vwCl tys U)) (vp_Si (fun r => r = if a1 = 0 ∨ a1 = 1 ∨ a1 = 2 ∨ a1 = 3 then 0 else (-1))) 0 0 (fun _ => False) := by
  refine Met.ofW (cc := cX8_count) (maxL := 2) (ret := (some .int)) (by decide) rfl ?_
  intro p e s m args below meth c s₁ B hml hv
  obtain ⟨rfl, hP, hK⟩ := hv
  have hx := B.exec
  have hb := B.bytes
  have hr := B.returns
  have hts := atoms_spec (ws := wsX8_count) B.pre
  have hown : s.vm.findClass RX8 = some m.cls := findClass_of_methodNamed B.named
  have hlocks := B.notSynchronized
  have hin8 : ∀ w ∈ u_ws RX8 TX8 15, w ∈ wsX8_count := (fun _ h9 => List.mem_cons_of_mem _ ((List.mem_append_right _ h9)))
  have hl := lv_entry ([.ref h0, .int a1]) (n := 2) (Nat.le_of_ble_eq_true rfl)
  rw [lg_entry_eq]
  generalize (lg_sl ([.ref h0, .int a1]) ++ List.replicate (2 - (lg_sl ([.ref h0, .int a1])).length) Slot.unset).toArray = ls at hl ⊢
  have hl : lv_has ls 2 [(0, .ref h0), (1, .int a1)] := hl
  have X0 := X
  obtain ⟨k0, la, ta, ba, ra, sn, rd, dr, bl, vd, fb, k1, k2, k3, k4, k5, k6, c1, c2, c3, c4, t1, t2, t3, t4, g, bs, rs, e0, e1, u1, e2, u2, e3, u3, e4, u4, e5, fb1, e6, fr3, fr4, hT⟩ := X
  refine lv_iload_n hx hb dX8_count_0 rfl (lv_at hl 1 rfl) ?_
  by_cases c_1 : a1 = 0
  · refine lv_tableIn (off := 31) (tgt := 32) hx hb dX8_count_1 (by rw [c_1]; decide) (by rw [c_1]; decide) (by rw [c_1]; rfl) (by decide) ?_
    refine lv_aload_n hx hb dX8_count_32 rfl (lv_at hl 0 rfl) ?_
    refine va_get (D := D) (ci := 8) (v := .int 0) (C := RX8) (T := TX8) (N := 15) hx hb hts hin8 hown hK hP k0 e0 rfl 10 (by decide) (hts (.fieldLink RX8 90 "HoneyHouse" "lotCount" "I") (List.mem_of_getElem? (i := 1) rfl)) (fun _ h9 => h9) rfl dX8_count_33 ?_
    exact W.iret (v := 0) hx hb hr (fun t ht hW => ⟨0, rfl, (by first | rfl | (simp_all; done) | simp [c_1]), ht⟩) (fun _ h9 => by cases h9) dX8_count_36
  by_cases c_2 : a1 = 1
  · refine lv_tableIn (off := 36) (tgt := 37) hx hb dX8_count_1 (by rw [c_2]; decide) (by rw [c_2]; decide) (by rw [c_2]; rfl) (by decide) ?_
    refine lv_aload_n hx hb dX8_count_37 rfl (lv_at hl 0 rfl) ?_
    refine va_get (D := D) (ci := 8) (v := .int 0) (C := RX8) (T := TX8) (N := 15) hx hb hts hin8 hown hK hP k0 e0 rfl 11 (by decide) (hts (.fieldLink RX8 170 "HoneyHouse" "batchCount" "I") (List.mem_of_getElem? (i := 2) rfl)) (fun _ h9 => h9) rfl dX8_count_38 ?_
    exact W.iret (v := 0) hx hb hr (fun t ht hW => ⟨0, rfl, (by first | rfl | (simp_all; done) | simp [c_1, c_2]), ht⟩) (fun _ h9 => by cases h9) dX8_count_41
  by_cases c_3 : a1 = 2
  · refine lv_tableIn (off := 41) (tgt := 42) hx hb dX8_count_1 (by rw [c_3]; decide) (by rw [c_3]; decide) (by rw [c_3]; rfl) (by decide) ?_
    refine lv_aload_n hx hb dX8_count_42 rfl (lv_at hl 0 rfl) ?_
    refine va_get (D := D) (ci := 8) (v := .int 0) (C := RX8) (T := TX8) (N := 15) hx hb hts hin8 hown hK hP k0 e0 rfl 12 (by decide) (hts (.fieldLink RX8 196 "HoneyHouse" "ruleCount" "I") (List.mem_of_getElem? (i := 3) rfl)) (fun _ h9 => h9) rfl dX8_count_43 ?_
    exact W.iret (v := 0) hx hb hr (fun t ht hW => ⟨0, rfl, (by first | rfl | (simp_all; done) | simp [c_1, c_2, c_3]), ht⟩) (fun _ h9 => by cases h9) dX8_count_46
  by_cases c_4 : a1 = 3
  · refine lv_tableIn (off := 46) (tgt := 47) hx hb dX8_count_1 (by rw [c_4]; decide) (by rw [c_4]; decide) (by rw [c_4]; rfl) (by decide) ?_
    refine lv_aload_n hx hb dX8_count_47 rfl (lv_at hl 0 rfl) ?_
    refine va_get (D := D) (ci := 8) (v := .int 0) (C := RX8) (T := TX8) (N := 15) hx hb hts hin8 hown hK hP k0 e0 rfl 14 (by decide) (hts (.fieldLink RX8 82 "HoneyHouse" "dayNow" "I") (List.mem_of_getElem? (i := 4) rfl)) (fun _ h9 => h9) rfl dX8_count_48 ?_
    exact W.iret (v := 0) hx hb hr (fun t ht hW => ⟨0, rfl, (by first | rfl | (simp_all; done) | simp [c_1, c_2, c_3, c_4]), ht⟩) (fun _ h9 => by cases h9) dX8_count_51
  have nc_1 := lv_neT c_1 (a := 0) (by decide)
  have nc_2 := lv_neT c_2 (a := 1) (by decide)
  have nc_3 := lv_neT c_3 (a := 2) (by decide)
  have nc_4 := lv_neT c_4 (a := 3) (by decide)
  refine lv_tableOut (tgt := 52) hx hb dX8_count_1 (by omega) (by decide) ?_
  refine lv_iconst (v := (-1)) hx hb dX8_count_52 (by decide) ?_
  exact W.iret (v := (-1)) hx hb hr (fun t ht hW => ⟨(-1), rfl, (by first | rfl | (simp_all; done) | simp [c_1, c_2, c_3, c_4]), ht⟩) (fun _ h9 => by cases h9) dX8_count_53
end
section
theorem dX8_paid_0 : decode cX8_paid 0 = .ok (.iload_n 1, 1) := by decide +kernel
theorem dX8_paid_1 : decode cX8_paid 1 = .ok (.iconst 0, 1) := by decide +kernel
theorem dX8_paid_2 : decode cX8_paid 2 = .ok (.bipush 9, 2) := by decide +kernel
theorem dX8_paid_4 : decode cX8_paid 4 = .ok (.invokestatic 85, 3) := by decide +kernel
theorem dX8_paid_7 : decode cX8_paid 7 = .ok (.ifCond .ne 7, 3) := by decide +kernel
theorem dX8_paid_10 : decode cX8_paid 10 = .ok (.ldc2_w 246, 3) := by decide +kernel
theorem dX8_paid_13 : decode cX8_paid 13 = .ok (.lreturn, 1) := by decide +kernel
theorem dX8_paid_14 : decode cX8_paid 14 = .ok (.lconst 0, 1) := by decide +kernel
theorem dX8_paid_15 : decode cX8_paid 15 = .ok (.lstore_n 2, 1) := by decide +kernel
theorem dX8_paid_16 : decode cX8_paid 16 = .ok (.iconst 0, 1) := by decide +kernel
theorem dX8_paid_17 : decode cX8_paid 17 = .ok (.istore 4, 2) := by decide +kernel
theorem dX8_paid_19 : decode cX8_paid 19 = .ok (.iload 4, 2) := by decide +kernel
theorem dX8_paid_21 : decode cX8_paid 21 = .ok (.aload_n 0, 1) := by decide +kernel
theorem dX8_paid_22 : decode cX8_paid 22 = .ok (.getfield 11, 3) := by decide +kernel
theorem dX8_paid_25 : decode cX8_paid 25 = .ok (.arraylength, 1) := by decide +kernel
theorem dX8_paid_26 : decode cX8_paid 26 = .ok (.if_icmp .ge 41, 3) := by decide +kernel
theorem dX8_paid_29 : decode cX8_paid 29 = .ok (.aload_n 0, 1) := by decide +kernel
theorem dX8_paid_30 : decode cX8_paid 30 = .ok (.getfield 11, 3) := by decide +kernel
theorem dX8_paid_33 : decode cX8_paid 33 = .ok (.iload 4, 2) := by decide +kernel
theorem dX8_paid_35 : decode cX8_paid 35 = .ok (.aaload, 1) := by decide +kernel
theorem dX8_paid_36 : decode cX8_paid 36 = .ok (.astore 5, 2) := by decide +kernel
theorem dX8_paid_38 : decode cX8_paid 38 = .ok (.aload 5, 2) := by decide +kernel
theorem dX8_paid_40 : decode cX8_paid 40 = .ok (.ifnull 21, 3) := by decide +kernel
theorem dX8_paid_61 : decode cX8_paid 61 = .ok (.iinc 4 1, 3) := by decide +kernel
theorem dX8_paid_64 : decode cX8_paid 64 = .ok (.goto (-45), 3) := by decide +kernel
theorem dX8_paid_67 : decode cX8_paid 67 = .ok (.lload_n 2, 1) := by decide +kernel
theorem dX8_paid_68 : decode cX8_paid 68 = .ok (.lreturn, 1) := by decide +kernel
theorem dX8_whose_0 : decode cX8_whose 0 = .ok (.iload_n 1, 1) := by decide +kernel
theorem dX8_whose_1 : decode cX8_whose 1 = .ok (.iconst 0, 1) := by decide +kernel
theorem dX8_whose_2 : decode cX8_whose 2 = .ok (.bipush 9, 2) := by decide +kernel
theorem dX8_whose_4 : decode cX8_whose 4 = .ok (.invokestatic 85, 3) := by decide +kernel
theorem dX8_whose_7 : decode cX8_whose 7 = .ok (.ifCond .eq 12, 3) := by decide +kernel
theorem dX8_whose_10 : decode cX8_whose 10 = .ok (.iload_n 2, 1) := by decide +kernel
theorem dX8_whose_11 : decode cX8_whose 11 = .ok (.iconst 0, 1) := by decide +kernel
theorem dX8_whose_12 : decode cX8_whose 12 = .ok (.iconst 3, 1) := by decide +kernel
theorem dX8_whose_13 : decode cX8_whose 13 = .ok (.invokestatic 85, 3) := by decide +kernel
theorem dX8_whose_16 : decode cX8_whose 16 = .ok (.ifCond .ne 7, 3) := by decide +kernel
theorem dX8_whose_19 : decode cX8_whose 19 = .ok (.ldc2_w 246, 3) := by decide +kernel
theorem dX8_whose_22 : decode cX8_whose 22 = .ok (.lreturn, 1) := by decide +kernel
theorem dX8_whose_23 : decode cX8_whose 23 = .ok (.lconst 0, 1) := by decide +kernel
theorem dX8_whose_24 : decode cX8_whose 24 = .ok (.lstore_n 3, 1) := by decide +kernel
theorem dX8_whose_25 : decode cX8_whose 25 = .ok (.iconst 0, 1) := by decide +kernel
theorem dX8_whose_26 : decode cX8_whose 26 = .ok (.istore 5, 2) := by decide +kernel
theorem dX8_whose_28 : decode cX8_whose 28 = .ok (.iload 5, 2) := by decide +kernel
theorem dX8_whose_30 : decode cX8_whose 30 = .ok (.aload_n 0, 1) := by decide +kernel
theorem dX8_whose_31 : decode cX8_whose 31 = .ok (.getfield 11, 3) := by decide +kernel
theorem dX8_whose_34 : decode cX8_whose 34 = .ok (.arraylength, 1) := by decide +kernel
theorem dX8_whose_35 : decode cX8_whose 35 = .ok (.if_icmp .ge 45, 3) := by decide +kernel
theorem dX8_whose_38 : decode cX8_whose 38 = .ok (.aload_n 0, 1) := by decide +kernel
theorem dX8_whose_39 : decode cX8_whose 39 = .ok (.getfield 11, 3) := by decide +kernel
theorem dX8_whose_42 : decode cX8_whose 42 = .ok (.iload 5, 2) := by decide +kernel
theorem dX8_whose_44 : decode cX8_whose 44 = .ok (.aaload, 1) := by decide +kernel
theorem dX8_whose_45 : decode cX8_whose 45 = .ok (.astore 6, 2) := by decide +kernel
theorem dX8_whose_47 : decode cX8_whose 47 = .ok (.aload 6, 2) := by decide +kernel
theorem dX8_whose_49 : decode cX8_whose 49 = .ok (.ifnull 25, 3) := by decide +kernel
theorem dX8_whose_74 : decode cX8_whose 74 = .ok (.iinc 5 1, 3) := by decide +kernel
theorem dX8_whose_77 : decode cX8_whose 77 = .ok (.goto (-49), 3) := by decide +kernel
theorem dX8_whose_80 : decode cX8_whose 80 = .ok (.lload_n 3, 1) := by decide +kernel
theorem dX8_whose_81 : decode cX8_whose 81 = .ok (.lreturn, 1) := by decide +kernel
theorem dJ6_bitCount_0f7a4_0 : decode cJ6_bitCount_0f7a4 0 = .ok (.iload_n 0, 1) := by decide +kernel
theorem dJ6_bitCount_0f7a4_1 : decode cJ6_bitCount_0f7a4 1 = .ok (.iload_n 0, 1) := by decide +kernel
theorem dJ6_bitCount_0f7a4_2 : decode cJ6_bitCount_0f7a4 2 = .ok (.iconst 1, 1) := by decide +kernel
theorem dJ6_bitCount_0f7a4_3 : decode cJ6_bitCount_0f7a4 3 = .ok (.iushr, 1) := by decide +kernel
theorem dJ6_bitCount_0f7a4_4 : decode cJ6_bitCount_0f7a4 4 = .ok (.ldc_w 265, 3) := by decide +kernel
theorem dJ6_bitCount_0f7a4_7 : decode cJ6_bitCount_0f7a4 7 = .ok (.iand, 1) := by decide +kernel
theorem dJ6_bitCount_0f7a4_8 : decode cJ6_bitCount_0f7a4 8 = .ok (.isub, 1) := by decide +kernel
theorem dJ6_bitCount_0f7a4_9 : decode cJ6_bitCount_0f7a4 9 = .ok (.istore_n 0, 1) := by decide +kernel
theorem dJ6_bitCount_0f7a4_10 : decode cJ6_bitCount_0f7a4 10 = .ok (.iload_n 0, 1) := by decide +kernel
theorem dJ6_bitCount_0f7a4_11 : decode cJ6_bitCount_0f7a4 11 = .ok (.ldc_w 266, 3) := by decide +kernel
theorem dJ6_bitCount_0f7a4_14 : decode cJ6_bitCount_0f7a4 14 = .ok (.iand, 1) := by decide +kernel
theorem dJ6_bitCount_0f7a4_15 : decode cJ6_bitCount_0f7a4 15 = .ok (.iload_n 0, 1) := by decide +kernel
theorem dJ6_bitCount_0f7a4_16 : decode cJ6_bitCount_0f7a4 16 = .ok (.iconst 2, 1) := by decide +kernel
theorem dJ6_bitCount_0f7a4_17 : decode cJ6_bitCount_0f7a4 17 = .ok (.iushr, 1) := by decide +kernel
theorem dJ6_bitCount_0f7a4_18 : decode cJ6_bitCount_0f7a4 18 = .ok (.ldc_w 266, 3) := by decide +kernel
theorem dJ6_bitCount_0f7a4_21 : decode cJ6_bitCount_0f7a4 21 = .ok (.iand, 1) := by decide +kernel
theorem dJ6_bitCount_0f7a4_22 : decode cJ6_bitCount_0f7a4 22 = .ok (.iadd, 1) := by decide +kernel
theorem dJ6_bitCount_0f7a4_23 : decode cJ6_bitCount_0f7a4 23 = .ok (.istore_n 0, 1) := by decide +kernel
theorem dJ6_bitCount_0f7a4_24 : decode cJ6_bitCount_0f7a4 24 = .ok (.iload_n 0, 1) := by decide +kernel
theorem dJ6_bitCount_0f7a4_25 : decode cJ6_bitCount_0f7a4 25 = .ok (.iload_n 0, 1) := by decide +kernel
theorem dJ6_bitCount_0f7a4_26 : decode cJ6_bitCount_0f7a4 26 = .ok (.iconst 4, 1) := by decide +kernel
theorem dJ6_bitCount_0f7a4_27 : decode cJ6_bitCount_0f7a4 27 = .ok (.iushr, 1) := by decide +kernel
theorem dJ6_bitCount_0f7a4_28 : decode cJ6_bitCount_0f7a4 28 = .ok (.iadd, 1) := by decide +kernel
theorem dJ6_bitCount_0f7a4_29 : decode cJ6_bitCount_0f7a4 29 = .ok (.ldc_w 267, 3) := by decide +kernel
theorem dJ6_bitCount_0f7a4_32 : decode cJ6_bitCount_0f7a4 32 = .ok (.iand, 1) := by decide +kernel
theorem dJ6_bitCount_0f7a4_33 : decode cJ6_bitCount_0f7a4 33 = .ok (.istore_n 0, 1) := by decide +kernel
theorem dJ6_bitCount_0f7a4_34 : decode cJ6_bitCount_0f7a4 34 = .ok (.iload_n 0, 1) := by decide +kernel
theorem dJ6_bitCount_0f7a4_35 : decode cJ6_bitCount_0f7a4 35 = .ok (.iload_n 0, 1) := by decide +kernel
theorem dJ6_bitCount_0f7a4_36 : decode cJ6_bitCount_0f7a4 36 = .ok (.bipush 8, 2) := by decide +kernel
theorem dJ6_bitCount_0f7a4_38 : decode cJ6_bitCount_0f7a4 38 = .ok (.iushr, 1) := by decide +kernel
theorem dJ6_bitCount_0f7a4_39 : decode cJ6_bitCount_0f7a4 39 = .ok (.iadd, 1) := by decide +kernel
theorem dJ6_bitCount_0f7a4_40 : decode cJ6_bitCount_0f7a4 40 = .ok (.istore_n 0, 1) := by decide +kernel
theorem dJ6_bitCount_0f7a4_41 : decode cJ6_bitCount_0f7a4 41 = .ok (.iload_n 0, 1) := by decide +kernel
theorem dJ6_bitCount_0f7a4_42 : decode cJ6_bitCount_0f7a4 42 = .ok (.iload_n 0, 1) := by decide +kernel
theorem dJ6_bitCount_0f7a4_43 : decode cJ6_bitCount_0f7a4 43 = .ok (.bipush 16, 2) := by decide +kernel
theorem dJ6_bitCount_0f7a4_45 : decode cJ6_bitCount_0f7a4 45 = .ok (.iushr, 1) := by decide +kernel
theorem dJ6_bitCount_0f7a4_46 : decode cJ6_bitCount_0f7a4 46 = .ok (.iadd, 1) := by decide +kernel
theorem dJ6_bitCount_0f7a4_47 : decode cJ6_bitCount_0f7a4 47 = .ok (.istore_n 0, 1) := by decide +kernel
theorem dJ6_bitCount_0f7a4_48 : decode cJ6_bitCount_0f7a4 48 = .ok (.iload_n 0, 1) := by decide +kernel
theorem dJ6_bitCount_0f7a4_49 : decode cJ6_bitCount_0f7a4 49 = .ok (.bipush 63, 2) := by decide +kernel
theorem dJ6_bitCount_0f7a4_51 : decode cJ6_bitCount_0f7a4 51 = .ok (.iand, 1) := by decide +kernel
theorem dJ6_bitCount_0f7a4_52 : decode cJ6_bitCount_0f7a4 52 = .ok (.ireturn, 1) := by decide +kernel
theorem dX8_hasBit_0 : decode cX8_hasBit 0 = .ok (.iload_n 0, 1) := by decide +kernel
theorem dX8_hasBit_1 : decode cX8_hasBit 1 = .ok (.iload_n 1, 1) := by decide +kernel
theorem dX8_hasBit_2 : decode cX8_hasBit 2 = .ok (.ishr, 1) := by decide +kernel
theorem dX8_hasBit_3 : decode cX8_hasBit 3 = .ok (.iconst 1, 1) := by decide +kernel
theorem dX8_hasBit_4 : decode cX8_hasBit 4 = .ok (.iand, 1) := by decide +kernel
theorem dX8_hasBit_5 : decode cX8_hasBit 5 = .ok (.iconst 1, 1) := by decide +kernel
theorem dX8_hasBit_6 : decode cX8_hasBit 6 = .ok (.if_icmp .ne 7, 3) := by decide +kernel
theorem dX8_hasBit_9 : decode cX8_hasBit 9 = .ok (.iconst 1, 1) := by decide +kernel
theorem dX8_hasBit_10 : decode cX8_hasBit 10 = .ok (.goto 4, 3) := by decide +kernel
theorem dX8_hasBit_13 : decode cX8_hasBit 13 = .ok (.iconst 0, 1) := by decide +kernel
theorem dX8_hasBit_14 : decode cX8_hasBit 14 = .ok (.ireturn, 1) := by decide +kernel
theorem dX8_areTanksToBlend_0 : decode cX8_areTanksToBlend 0 = .ok (.iload_n 1, 1) := by decide +kernel
theorem dX8_areTanksToBlend_1 : decode cX8_areTanksToBlend 1 = .ok (.bipush 10, 2) := by decide +kernel
theorem dX8_areTanksToBlend_3 : decode cX8_areTanksToBlend 3 = .ok (.ishr, 1) := by decide +kernel
theorem dX8_areTanksToBlend_4 : decode cX8_areTanksToBlend 4 = .ok (.ifCond .ne 15, 3) := by decide +kernel
theorem dX8_areTanksToBlend_7 : decode cX8_areTanksToBlend 7 = .ok (.iload_n 1, 1) := by decide +kernel
theorem dX8_areTanksToBlend_8 : decode cX8_areTanksToBlend 8 = .ok (.invokestatic 310, 3) := by decide +kernel
theorem dX8_areTanksToBlend_11 : decode cX8_areTanksToBlend 11 = .ok (.iconst 1, 1) := by decide +kernel
theorem dX8_areTanksToBlend_12 : decode cX8_areTanksToBlend 12 = .ok (.iconst 4, 1) := by decide +kernel
theorem dX8_areTanksToBlend_13 : decode cX8_areTanksToBlend 13 = .ok (.invokestatic 85, 3) := by decide +kernel
theorem dX8_areTanksToBlend_16 : decode cX8_areTanksToBlend 16 = .ok (.ifCond .ne 5, 3) := by decide +kernel
theorem dX8_areTanksToBlend_19 : decode cX8_areTanksToBlend 19 = .ok (.iconst 0, 1) := by decide +kernel
theorem dX8_areTanksToBlend_20 : decode cX8_areTanksToBlend 20 = .ok (.ireturn, 1) := by decide +kernel
theorem dX8_areTanksToBlend_21 : decode cX8_areTanksToBlend 21 = .ok (.iconst 0, 1) := by decide +kernel
theorem dX8_areTanksToBlend_22 : decode cX8_areTanksToBlend 22 = .ok (.istore_n 2, 1) := by decide +kernel
theorem dX8_areTanksToBlend_23 : decode cX8_areTanksToBlend 23 = .ok (.iload_n 2, 1) := by decide +kernel
theorem dX8_areTanksToBlend_24 : decode cX8_areTanksToBlend 24 = .ok (.aload_n 0, 1) := by decide +kernel
theorem dX8_areTanksToBlend_25 : decode cX8_areTanksToBlend 25 = .ok (.getfield 17, 3) := by decide +kernel
theorem dX8_areTanksToBlend_28 : decode cX8_areTanksToBlend 28 = .ok (.arraylength, 1) := by decide +kernel
theorem dX8_areTanksToBlend_29 : decode cX8_areTanksToBlend 29 = .ok (.if_icmp .ge 40, 3) := by decide +kernel
theorem dX8_areTanksToBlend_32 : decode cX8_areTanksToBlend 32 = .ok (.iload_n 1, 1) := by decide +kernel
theorem dX8_areTanksToBlend_33 : decode cX8_areTanksToBlend 33 = .ok (.iload_n 2, 1) := by decide +kernel
theorem dX8_areTanksToBlend_34 : decode cX8_areTanksToBlend 34 = .ok (.invokestatic 255, 3) := by decide +kernel
theorem dX8_areTanksToBlend_37 : decode cX8_areTanksToBlend 37 = .ok (.ifCond .eq 26, 3) := by decide +kernel
theorem dX8_areTanksToBlend_40 : decode cX8_areTanksToBlend 40 = .ok (.aload_n 0, 1) := by decide +kernel
theorem dX8_areTanksToBlend_41 : decode cX8_areTanksToBlend 41 = .ok (.getfield 17, 3) := by decide +kernel
theorem dX8_areTanksToBlend_44 : decode cX8_areTanksToBlend 44 = .ok (.iload_n 2, 1) := by decide +kernel
theorem dX8_areTanksToBlend_45 : decode cX8_areTanksToBlend 45 = .ok (.aaload, 1) := by decide +kernel
theorem dX8_areTanksToBlend_46 : decode cX8_areTanksToBlend 46 = .ok (.ifnull 15, 3) := by decide +kernel
theorem dX8_areTanksToBlend_49 : decode cX8_areTanksToBlend 49 = .ok (.aload_n 0, 1) := by decide +kernel
theorem dX8_areTanksToBlend_50 : decode cX8_areTanksToBlend 50 = .ok (.getfield 17, 3) := by decide +kernel
theorem dX8_areTanksToBlend_53 : decode cX8_areTanksToBlend 53 = .ok (.iload_n 2, 1) := by decide +kernel
theorem dX8_areTanksToBlend_54 : decode cX8_areTanksToBlend 54 = .ok (.aaload, 1) := by decide +kernel
theorem dX8_areTanksToBlend_55 : decode cX8_areTanksToBlend 55 = .ok (.getfield 144, 3) := by decide +kernel
theorem dX8_areTanksToBlend_58 : decode cX8_areTanksToBlend 58 = .ok (.ifCond .ne 5, 3) := by decide +kernel
theorem dX8_areTanksToBlend_61 : decode cX8_areTanksToBlend 61 = .ok (.iconst 0, 1) := by decide +kernel
theorem dX8_areTanksToBlend_62 : decode cX8_areTanksToBlend 62 = .ok (.ireturn, 1) := by decide +kernel
theorem dX8_areTanksToBlend_63 : decode cX8_areTanksToBlend 63 = .ok (.iinc 2 1, 3) := by decide +kernel
theorem dX8_areTanksToBlend_66 : decode cX8_areTanksToBlend 66 = .ok (.goto (-43), 3) := by decide +kernel
theorem dX8_blend_0 : decode cX8_blend 0 = .ok (.iload_n 2, 1) := by decide +kernel
theorem dX8_blend_1 : decode cX8_blend 1 = .ok (.iconst 1, 1) := by decide +kernel
theorem dX8_blend_2 : decode cX8_blend 2 = .ok (.bipush 40, 2) := by decide +kernel
theorem dX8_blend_4 : decode cX8_blend 4 = .ok (.invokestatic 85, 3) := by decide +kernel
theorem dX8_blend_7 : decode cX8_blend 7 = .ok (.ifCond .eq 42, 3) := by decide +kernel
theorem dX8_blend_10 : decode cX8_blend 10 = .ok (.iload_n 3, 1) := by decide +kernel
theorem dX8_blend_11 : decode cX8_blend 11 = .ok (.iconst 0, 1) := by decide +kernel
theorem dX8_blend_12 : decode cX8_blend 12 = .ok (.sipush 300, 3) := by decide +kernel
theorem dX8_blend_15 : decode cX8_blend 15 = .ok (.invokestatic 85, 3) := by decide +kernel
theorem dX8_blend_18 : decode cX8_blend 18 = .ok (.ifCond .eq 31, 3) := by decide +kernel
theorem dX8_blend_21 : decode cX8_blend 21 = .ok (.iload 4, 2) := by decide +kernel
theorem dX8_blend_23 : decode cX8_blend 23 = .ok (.iconst 0, 1) := by decide +kernel
theorem dX8_blend_24 : decode cX8_blend 24 = .ok (.sipush 140, 3) := by decide +kernel
theorem dX8_blend_27 : decode cX8_blend 27 = .ok (.invokestatic 85, 3) := by decide +kernel
theorem dX8_blend_30 : decode cX8_blend 30 = .ok (.ifCond .eq 19, 3) := by decide +kernel
theorem dX8_blend_33 : decode cX8_blend 33 = .ok (.iload 5, 2) := by decide +kernel
theorem dX8_blend_35 : decode cX8_blend 35 = .ok (.iconst 0, 1) := by decide +kernel
theorem dX8_blend_36 : decode cX8_blend 36 = .ok (.sipush 140, 3) := by decide +kernel
theorem dX8_blend_39 : decode cX8_blend 39 = .ok (.invokestatic 85, 3) := by decide +kernel
theorem dX8_blend_42 : decode cX8_blend 42 = .ok (.ifCond .eq 7, 3) := by decide +kernel
theorem dX8_blend_45 : decode cX8_blend 45 = .ok (.iconst 1, 1) := by decide +kernel
theorem dX8_blend_46 : decode cX8_blend 46 = .ok (.goto 4, 3) := by decide +kernel
theorem dX8_blend_49 : decode cX8_blend 49 = .ok (.iconst 0, 1) := by decide +kernel
theorem dX8_blend_50 : decode cX8_blend 50 = .ok (.istore 6, 2) := by decide +kernel
theorem dX8_blend_52 : decode cX8_blend 52 = .ok (.iload 6, 2) := by decide +kernel
theorem dX8_blend_54 : decode cX8_blend 54 = .ok (.ifCond .eq 11, 3) := by decide +kernel
theorem dX8_blend_57 : decode cX8_blend 57 = .ok (.aload_n 0, 1) := by decide +kernel
theorem dX8_blend_58 : decode cX8_blend 58 = .ok (.iload_n 1, 1) := by decide +kernel
theorem dX8_blend_59 : decode cX8_blend 59 = .ok (.invokevirtual 248, 3) := by decide +kernel
theorem dX8_blend_62 : decode cX8_blend 62 = .ok (.ifCond .ne 5, 3) := by decide +kernel
theorem dX8_blend_65 : decode cX8_blend 65 = .ok (.iconst (-1), 1) := by decide +kernel
theorem dX8_blend_66 : decode cX8_blend 66 = .ok (.ireturn, 1) := by decide +kernel
set_option maxRecDepth 20000 in
theorem ggX8_paid_X8_isIn : GoodIn wsX8_paid wsX8_isIn := goodIn_r _ [8] (by decide +kernel) (by decide +kernel)
set_option maxRecDepth 20000 in
theorem gX8_paid_X8_isIn : GoodIn wsX8_paid (va_wsS RX8 85 yX8_isIn wsX8_isIn) := goodIn_app (goodIn_of _ (by decide +kernel)) ggX8_paid_X8_isIn
set_option maxRecDepth 20000 in
theorem ggX8_whose_X8_isIn : GoodIn wsX8_whose wsX8_isIn := goodIn_r _ [7] (by decide +kernel) (by decide +kernel)
set_option maxRecDepth 20000 in
theorem gX8_whose_X8_isIn : GoodIn wsX8_whose (va_wsS RX8 85 yX8_isIn wsX8_isIn) := goodIn_app (goodIn_of _ (by decide +kernel)) ggX8_whose_X8_isIn
set_option maxRecDepth 20000 in
theorem ggX8_areTanksToBlend_J6_bitCount_0f7a4 : GoodIn wsX8_areTanksToBlend wsJ6_bitCount_0f7a4 := goodIn_r _ [6, 7, 8, 9] (by decide +kernel) (by decide +kernel)
set_option maxRecDepth 20000 in
theorem gX8_areTanksToBlend_J6_bitCount_0f7a4 : GoodIn wsX8_areTanksToBlend (va_wsS RX8 310 yJ6_bitCount_0f7a4 wsJ6_bitCount_0f7a4) := goodIn_app (goodIn_of _ (by decide +kernel)) ggX8_areTanksToBlend_J6_bitCount_0f7a4
set_option maxRecDepth 20000 in
theorem ggX8_areTanksToBlend_X8_isIn : GoodIn wsX8_areTanksToBlend wsX8_isIn := goodIn_r _ [13] (by decide +kernel) (by decide +kernel)
set_option maxRecDepth 20000 in
theorem gX8_areTanksToBlend_X8_isIn : GoodIn wsX8_areTanksToBlend (va_wsS RX8 85 yX8_isIn wsX8_isIn) := goodIn_app (goodIn_of _ (by decide +kernel)) ggX8_areTanksToBlend_X8_isIn
set_option maxRecDepth 20000 in
theorem ggX8_areTanksToBlend_X8_hasBit : GoodIn wsX8_areTanksToBlend wsX8_hasBit := goodIn_r _ [16] (by decide +kernel) (by decide +kernel)
set_option maxRecDepth 20000 in
theorem gX8_areTanksToBlend_X8_hasBit : GoodIn wsX8_areTanksToBlend (va_wsS RX8 255 yX8_hasBit wsX8_hasBit) := goodIn_app (goodIn_of _ (by decide +kernel)) ggX8_areTanksToBlend_X8_hasBit
set_option maxRecDepth 20000 in
theorem ggX8_blend_X8_isIn : GoodIn wsX8_blend wsX8_isIn := goodIn_r _ [8] (by decide +kernel) (by decide +kernel)
set_option maxRecDepth 20000 in
theorem gX8_blend_X8_isIn : GoodIn wsX8_blend (va_wsS RX8 85 yX8_isIn wsX8_isIn) := goodIn_app (goodIn_of _ (by decide +kernel)) ggX8_blend_X8_isIn
set_option maxRecDepth 20000 in
theorem ggX8_blend_X8_areTanksToBlend : GoodIn wsX8_blend wsX8_areTanksToBlend := goodIn_r _ [12, 2, 3, 13, 14, 15, 16, 17, 18, 19, 5, 6, 7, 8, 20, 21, 22, 105, 106, 107, 108, 109, 110, 111, 112, 113, 114, 115, 116, 117, 118, 119, 120, 121, 122, 123, 124] (by decide +kernel) (by decide +kernel)
set_option maxRecDepth 20000 in
theorem gX8_blend_X8_areTanksToBlend : GoodIn wsX8_blend (wsV RX8 248 RX8 yX8_areTanksToBlend wsX8_areTanksToBlend) := goodIn_app (goodIn_of _ (by decide +kernel)) ggX8_blend_X8_areTanksToBlend
set_option maxHeartbeats 4000000 in
set_option maxRecDepth 100000 in
theorem s_X8_paid (l : Launch) (D : va_G) (ws : va_W) (tys : List (ClassId × FieldType)) (h0 : Nat) (X : XF ws tys h0) (a1 : Int32) : Met l yX8_paid wsX8_paid ({ frames := 1, cells := 0, slots := 0, locals := 22 }) (va_Pc [.ref h0, .int a1] (fun U => va_P D vwCl ws U.heap ∧ va_K D vwCl tys U)) (vp_Sl (fun r => r = if a1 < 0 ∨ 9 < a1 then (-1) else 0)) 0 0 (fun _ => False) := by
  refine Met.ofW (cc := cX8_paid) (maxL := 6) (ret := (some .long)) (by decide) rfl ?_
  intro p e s m args below meth c s₁ B hml hv
  obtain ⟨rfl, hP, hK⟩ := hv
  have hx := B.exec
  have hb := B.bytes
  have hr := B.returns
  have hts := atoms_spec (ws := wsX8_paid) B.pre
  have hown : s.vm.findClass RX8 = some m.cls := findClass_of_methodNamed B.named
  have hlocks := B.notSynchronized
  have hin8 : ∀ w ∈ u_ws RX8 TX8 15, w ∈ wsX8_paid := (fun _ h9 => List.mem_cons_of_mem _ (List.mem_append_left _ ((List.mem_append_right _ h9))))
  have hl := lv_entry ([.ref h0, .int a1]) (n := 6) (Nat.le_of_ble_eq_true rfl)
  rw [lg_entry_eq]
  generalize (lg_sl ([.ref h0, .int a1]) ++ List.replicate (6 - (lg_sl ([.ref h0, .int a1])).length) Slot.unset).toArray = ls at hl ⊢
  have hl : lv_has ls 6 [(0, .ref h0), (1, .int a1)] := hl
  have X0 := X
  obtain ⟨k0, la, ta, ba, ra, sn, rd, dr, bl, vd, fb, k1, k2, k3, k4, k5, k6, c1, c2, c3, c4, t1, t2, t3, t4, g, bs, rs, e0, e1, u1, e2, u2, e3, u3, e4, u4, e5, fb1, e6, fr3, fr4, hT⟩ := X
  refine lv_iload_n hx hb dX8_paid_0 rfl (lv_at hl 1 rfl) ?_
  refine lv_iconst (v := 0) hx hb dX8_paid_1 (by decide) ?_
  refine lv_bipush (v := 9) hx hb dX8_paid_2 (by decide) ?_
  refine vp_callSi (W.runS (As := [.int a1, .int 0, .int 9]) (rest := []) ⟨hx, hb, hml, hown, hts⟩ (s_X8_isIn l a1 0 9) (va_cwS 3 hts gX8_paid_X8_isIn rfl rfl rfl (by decide +kernel) ⟨Nat.le_of_ble_eq_true rfl, Nat.le_of_ble_eq_true rfl⟩) ⟨fun a U g mk q => q, fun U hU hW => ⟨rfl, trivial⟩⟩ rfl rfl hl.1 rfl (lv_room (Nat.le_of_ble_eq_true rfl)) dX8_paid_4 ⟨Nat.le_of_ble_eq_true rfl, Nat.le_of_ble_eq_true rfl⟩) (fun r_1 k_2 => ?_)
  rcases k_2 with ⟨rfl, a_3o⟩ | ⟨rfl, a_3, b_4⟩
  · refine lv_if_ne (tgt := 14) hx hb dX8_paid_7 (by decide) (fun c_5 => absurd (by decide) c_5) (fun c_5 => ?_)
    refine lv_ldc2 hx hb hown (hts (.constantLong RX8 246 (-1)) (List.mem_of_getElem? (i := 1) rfl)) dX8_paid_10 ?_
    exact W.lret (v := (-1)) hx hb hr (fun t ht hW => ⟨(-1), rfl, (by rcases a_3o with a_3o | a_3o <;> simp_all), ht⟩) (fun _ h9 => by cases h9) dX8_paid_13
  refine lv_if_ne (tgt := 14) hx hb dX8_paid_7 (by decide) (fun c_6 => ?_) (fun c_6 => absurd c_6 (by decide))
  refine lv_lconst (v := 0) hx hb dX8_paid_14 (by decide) ?_
  refine lv_lstore_n (lv' := [(2, .long 0), (0, .ref h0), (1, .int a1)]) hx hb dX8_paid_15 rfl hl (by decide) rfl (fun ls hl => ?_)
  refine lv_iconst (v := 0) hx hb dX8_paid_16 (by decide) ?_
  refine lv_istore (lv' := [(4, .int 0), (2, .long 0), (0, .ref h0), (1, .int a1)]) hx hb dX8_paid_17 hl (by decide) rfl (fun ls hl => ?_)
  refine lp_W (nL := 6) (N := 40) (lv := fun i => [(4, .int (nI i)), (2, .long 0), (0, .ref h0), (1, .int a1)]) (fun i hi ih ls hl => ?_) 0 (by omega) ls (lv_sub hl [0, 1, 2, 3] rfl)
  have hl : lv_has ls 6 [(4, .int (nI i)), (2, .long 0), (0, .ref h0), (1, .int a1)] := hl
  refine lv_iload hx hb dX8_paid_19 (lv_at hl 0 rfl) ?_
  refine lv_aload_n hx hb dX8_paid_21 rfl (lv_at hl 2 rfl) ?_
  refine va_get (D := D) (ci := 8) (v := .ref la) (C := RX8) (T := TX8) (N := 15) hx hb hts hin8 hown hK hP k0 e0 rfl 0 (by decide) (hts (.fieldLink RX8 11 "HoneyHouse" "lots" "[LHoneyHouse$Lot;") (List.mem_of_getElem? (i := 2) rfl)) (fun _ h9 => h9) rfl dX8_paid_22 ?_
  refine va_alen (v := 40) hx hb hK hP k1 t1 e1 u1 rfl dX8_paid_25 ?_
  refine lv_icmp_ge (tgt := 67) hx hb dX8_paid_26 (by decide) (fun c_7 => ?_) (fun c_7 => ?_)
  · refine lv_lload_n hx hb dX8_paid_67 rfl (lv_at hl 1 rfl) ?_
    exact W.lret (v := 0) hx hb hr (fun t ht hW => ⟨0, rfl, (by first | rfl | (simp_all; done) | simp [a_3, b_4, c_6, c_7]), ht⟩) (fun _ h9 => by cases h9) dX8_paid_68
  have hlt : i < 40 := i_lt_of hi (by omega) rfl c_7
  refine lv_aload_n hx hb dX8_paid_29 rfl (lv_at hl 2 rfl) ?_
  refine va_get (D := D) (ci := 8) (v := .ref la) (C := RX8) (T := TX8) (N := 15) hx hb hts hin8 hown hK hP k0 e0 rfl 0 (by decide) (hts (.fieldLink RX8 11 "HoneyHouse" "lots" "[LHoneyHouse$Lot;") (List.mem_of_getElem? (i := 2) rfl)) (fun _ h9 => h9) rfl dX8_paid_30 ?_
  refine lv_iload hx hb dX8_paid_33 (lv_at hl 0 rfl) ?_
  refine va_aldq (f := fun _ => none) (n := 40) hx hb hK hP k1 t1 e1 u1 (vp_in_nI hlt (by omega)) dX8_paid_35 ?_
  refine tp_v (y := .null) rfl ?_
  refine lv_astoreN (lv' := [(5, .null), (4, .int (nI i)), (2, .long 0), (0, .ref h0), (1, .int a1)]) hx hb dX8_paid_36 hl (by decide) rfl (fun ls hl => ?_)
  refine lv_aloadN hx hb dX8_paid_38 (lv_at hl 0 rfl) ?_
  refine lv_ifnullN (tgt := 61) hx hb dX8_paid_40 (by decide) ?_
  refine lv_iinc (v := nI (i + 1)) (lv' := [(4, .int (nI (i + 1))), (5, .null), (2, .long 0), (0, .ref h0), (1, .int a1)]) hx hb dX8_paid_61 hl (k := 1) rfl (nI_1 i) (by decide) rfl (fun ls hl => ?_)
  refine lv_goto (tgt := 19) hx hb dX8_paid_64 (by decide) ?_
  exact ih hlt ls (lv_sub hl [0, 2, 3, 4] rfl)
set_option maxHeartbeats 4000000 in
set_option maxRecDepth 100000 in
theorem s_X8_whose (l : Launch) (D : va_G) (ws : va_W) (tys : List (ClassId × FieldType)) (h0 : Nat) (X : XF ws tys h0) (a1 a2 : Int32) : Met l yX8_whose wsX8_whose ({ frames := 1, cells := 0, slots := 0, locals := 22 }) (va_Pc [.ref h0, .int a1, .int a2] (fun U => va_P D vwCl ws U.heap ∧ va_K D vwCl tys U)) (vp_Sl (fun r => r = if (a1 < 0 ∨ 9 < a1) ∨ (a2 < 0 ∨ 3 < a2) then (-1) else 0)) 0 0 (fun _ => False) := by
  refine Met.ofW (cc := cX8_whose) (maxL := 7) (ret := (some .long)) (by decide) rfl ?_
  intro p e s m args below meth c s₁ B hml hv
  obtain ⟨rfl, hP, hK⟩ := hv
  have hx := B.exec
  have hb := B.bytes
  have hr := B.returns
  have hts := atoms_spec (ws := wsX8_whose) B.pre
  have hown : s.vm.findClass RX8 = some m.cls := findClass_of_methodNamed B.named
  have hlocks := B.notSynchronized
  have hin8 : ∀ w ∈ u_ws RX8 TX8 15, w ∈ wsX8_whose := (fun _ h9 => List.mem_cons_of_mem _ (List.mem_append_left _ (List.mem_append_left _ ((List.mem_append_right _ h9)))))
  have hl := lv_entry ([.ref h0, .int a1, .int a2]) (n := 7) (Nat.le_of_ble_eq_true rfl)
  rw [lg_entry_eq]
  generalize (lg_sl ([.ref h0, .int a1, .int a2]) ++ List.replicate (7 - (lg_sl ([.ref h0, .int a1, .int a2])).length) Slot.unset).toArray = ls at hl ⊢
  have hl : lv_has ls 7 [(0, .ref h0), (1, .int a1), (2, .int a2)] := hl
  have X0 := X
  obtain ⟨k0, la, ta, ba, ra, sn, rd, dr, bl, vd, fb, k1, k2, k3, k4, k5, k6, c1, c2, c3, c4, t1, t2, t3, t4, g, bs, rs, e0, e1, u1, e2, u2, e3, u3, e4, u4, e5, fb1, e6, fr3, fr4, hT⟩ := X
  refine lv_iload_n hx hb dX8_whose_0 rfl (lv_at hl 1 rfl) ?_
  refine lv_iconst (v := 0) hx hb dX8_whose_1 (by decide) ?_
  refine lv_bipush (v := 9) hx hb dX8_whose_2 (by decide) ?_
  refine vp_callSi (W.runS (As := [.int a1, .int 0, .int 9]) (rest := []) ⟨hx, hb, hml, hown, hts⟩ (s_X8_isIn l a1 0 9) (va_cwS 3 hts gX8_whose_X8_isIn rfl rfl rfl (by decide +kernel) ⟨Nat.le_of_ble_eq_true rfl, Nat.le_of_ble_eq_true rfl⟩) ⟨fun a U g mk q => q, fun U hU hW => ⟨rfl, trivial⟩⟩ rfl rfl hl.1 rfl (lv_room (Nat.le_of_ble_eq_true rfl)) dX8_whose_4 ⟨Nat.le_of_ble_eq_true rfl, Nat.le_of_ble_eq_true rfl⟩) (fun r_1 k_2 => ?_)
  rcases k_2 with ⟨rfl, a_3o⟩ | ⟨rfl, a_3, b_4⟩
  · refine lv_if_eq (tgt := 19) hx hb dX8_whose_7 (by decide) (fun c_5 => ?_) (fun c_5 => absurd (by decide) c_5)
    refine lv_ldc2 hx hb hown (hts (.constantLong RX8 246 (-1)) (List.mem_of_getElem? (i := 1) rfl)) dX8_whose_19 ?_
    exact W.lret (v := (-1)) hx hb hr (fun t ht hW => ⟨(-1), rfl, (by rcases a_3o with a_3o | a_3o <;> simp_all), ht⟩) (fun _ h9 => by cases h9) dX8_whose_22
  refine lv_if_eq (tgt := 19) hx hb dX8_whose_7 (by decide) (fun c_6 => absurd c_6 (by decide)) (fun c_6 => ?_)
  refine lv_iload_n hx hb dX8_whose_10 rfl (lv_at hl 2 rfl) ?_
  refine lv_iconst (v := 0) hx hb dX8_whose_11 (by decide) ?_
  refine lv_iconst (v := 3) hx hb dX8_whose_12 (by decide) ?_
  refine vp_callSi (W.runS (As := [.int a2, .int 0, .int 3]) (rest := []) ⟨hx, hb, hml, hown, hts⟩ (s_X8_isIn l a2 0 3) (va_cwS 3 hts gX8_whose_X8_isIn rfl rfl rfl (by decide +kernel) ⟨Nat.le_of_ble_eq_true rfl, Nat.le_of_ble_eq_true rfl⟩) ⟨fun a U g mk q => q, fun U hU hW => ⟨rfl, trivial⟩⟩ rfl rfl hl.1 rfl (lv_room (Nat.le_of_ble_eq_true rfl)) dX8_whose_13 ⟨Nat.le_of_ble_eq_true rfl, Nat.le_of_ble_eq_true rfl⟩) (fun r_7 k_8 => ?_)
  rcases k_8 with ⟨rfl, a_9o⟩ | ⟨rfl, a_9, b_10⟩
  · refine lv_if_ne (tgt := 23) hx hb dX8_whose_16 (by decide) (fun c_11 => absurd (by decide) c_11) (fun c_11 => ?_)
    refine lv_ldc2 hx hb hown (hts (.constantLong RX8 246 (-1)) (List.mem_of_getElem? (i := 1) rfl)) dX8_whose_19 ?_
    exact W.lret (v := (-1)) hx hb hr (fun t ht hW => ⟨(-1), rfl, (by rcases a_9o with a_9o | a_9o <;> simp_all), ht⟩) (fun _ h9 => by cases h9) dX8_whose_22
  refine lv_if_ne (tgt := 23) hx hb dX8_whose_16 (by decide) (fun c_12 => ?_) (fun c_12 => absurd c_12 (by decide))
  refine lv_lconst (v := 0) hx hb dX8_whose_23 (by decide) ?_
  refine lv_lstore_n (lv' := [(3, .long 0), (0, .ref h0), (1, .int a1), (2, .int a2)]) hx hb dX8_whose_24 rfl hl (by decide) rfl (fun ls hl => ?_)
  refine lv_iconst (v := 0) hx hb dX8_whose_25 (by decide) ?_
  refine lv_istore (lv' := [(5, .int 0), (3, .long 0), (0, .ref h0), (1, .int a1), (2, .int a2)]) hx hb dX8_whose_26 hl (by decide) rfl (fun ls hl => ?_)
  refine lp_W (nL := 7) (N := 40) (lv := fun i => [(5, .int (nI i)), (3, .long 0), (0, .ref h0), (1, .int a1), (2, .int a2)]) (fun i hi ih ls hl => ?_) 0 (by omega) ls (lv_sub hl [0, 1, 2, 3, 4] rfl)
  have hl : lv_has ls 7 [(5, .int (nI i)), (3, .long 0), (0, .ref h0), (1, .int a1), (2, .int a2)] := hl
  refine lv_iload hx hb dX8_whose_28 (lv_at hl 0 rfl) ?_
  refine lv_aload_n hx hb dX8_whose_30 rfl (lv_at hl 2 rfl) ?_
  refine va_get (D := D) (ci := 8) (v := .ref la) (C := RX8) (T := TX8) (N := 15) hx hb hts hin8 hown hK hP k0 e0 rfl 0 (by decide) (hts (.fieldLink RX8 11 "HoneyHouse" "lots" "[LHoneyHouse$Lot;") (List.mem_of_getElem? (i := 2) rfl)) (fun _ h9 => h9) rfl dX8_whose_31 ?_
  refine va_alen (v := 40) hx hb hK hP k1 t1 e1 u1 rfl dX8_whose_34 ?_
  refine lv_icmp_ge (tgt := 80) hx hb dX8_whose_35 (by decide) (fun c_13 => ?_) (fun c_13 => ?_)
  · refine lv_lload_n hx hb dX8_whose_80 rfl (lv_at hl 1 rfl) ?_
    exact W.lret (v := 0) hx hb hr (fun t ht hW => ⟨0, rfl, (by first | rfl | (simp_all; done) | simp [a_3, b_4, c_6, a_9, b_10, c_12, c_13]), ht⟩) (fun _ h9 => by cases h9) dX8_whose_81
  have hlt : i < 40 := i_lt_of hi (by omega) rfl c_13
  refine lv_aload_n hx hb dX8_whose_38 rfl (lv_at hl 2 rfl) ?_
  refine va_get (D := D) (ci := 8) (v := .ref la) (C := RX8) (T := TX8) (N := 15) hx hb hts hin8 hown hK hP k0 e0 rfl 0 (by decide) (hts (.fieldLink RX8 11 "HoneyHouse" "lots" "[LHoneyHouse$Lot;") (List.mem_of_getElem? (i := 2) rfl)) (fun _ h9 => h9) rfl dX8_whose_39 ?_
  refine lv_iload hx hb dX8_whose_42 (lv_at hl 0 rfl) ?_
  refine va_aldq (f := fun _ => none) (n := 40) hx hb hK hP k1 t1 e1 u1 (vp_in_nI hlt (by omega)) dX8_whose_44 ?_
  refine tp_v (y := .null) rfl ?_
  refine lv_astoreN (lv' := [(6, .null), (5, .int (nI i)), (3, .long 0), (0, .ref h0), (1, .int a1), (2, .int a2)]) hx hb dX8_whose_45 hl (by decide) rfl (fun ls hl => ?_)
  refine lv_aloadN hx hb dX8_whose_47 (lv_at hl 0 rfl) ?_
  refine lv_ifnullN (tgt := 74) hx hb dX8_whose_49 (by decide) ?_
  refine lv_iinc (v := nI (i + 1)) (lv' := [(5, .int (nI (i + 1))), (6, .null), (3, .long 0), (0, .ref h0), (1, .int a1), (2, .int a2)]) hx hb dX8_whose_74 hl (k := 1) rfl (nI_1 i) (by decide) rfl (fun ls hl => ?_)
  refine lv_goto (tgt := 28) hx hb dX8_whose_77 (by decide) ?_
  exact ih hlt ls (lv_sub hl [0, 2, 3, 4, 5] rfl)
theorem and1 (x : Int32) : (x &&& 1) = 0 ∨ (x &&& 1) = 1 := by
  have h := pk_and x (m := 1) 1 (by decide)
  rcases Nat.mod_two_eq_zero_or_one x.toBitVec.toNat with q | q
  · left; rw [h]; show nI (x.toBitVec.toNat % 2) = 0; rw [q]; rfl
  · right; rw [h]; show nI (x.toBitVec.toNat % 2) = 1; rw [q]; rfl
theorem and1n {x : Int32} (h : ¬ (x &&& 1) = 1) : (x &&& 1) = 0 := (and1 x).elim id (fun q => absurd q h)
theorem shr10 {b : Int32} (h : b >>> ((10 : Int32) &&& 31) = 0) : ∃ n : Nat, n < 1024 ∧ b = nI n := by
  have e := pk_shr b ((10 : Int32) &&& 31) 10 (by decide)
  rw [h] at e
  have e0 : (0 : Int32).toInt = 0 := by decide
  rw [e0, Int.shiftRight_eq_div_pow] at e
  refine ⟨b.toInt.toNat, by omega, ?_⟩
  apply Int32.toInt_inj.mp
  rw [nI_toInt (by omega)]
  omega
set_option maxHeartbeats 4000000 in
set_option maxRecDepth 100000 in
theorem s_J6_bitCount (l : Launch) (a1 : Int32) : Met l yJ6_bitCount_0f7a4 wsJ6_bitCount_0f7a4 ({ frames := 0, cells := 0, slots := 0, locals := 0 }) (va_Pc [.int a1] (fun _ => True)) (vp_Si (fun r => a1 = 0 → r = 0)) 0 0 (fun _ => False) := by
  refine Met.ofW (cc := cJ6_bitCount_0f7a4) (maxL := 1) (ret := (some .int)) (by decide) rfl ?_
  intro p e s m args below meth c s₁ B hml hv
  obtain ⟨rfl, -⟩ := hv
  have hx := B.exec
  have hb := B.bytes
  have hr := B.returns
  have hts := atoms_spec (ws := wsJ6_bitCount_0f7a4) B.pre
  have hown : s.vm.findClass RJ6 = some m.cls := findClass_of_methodNamed B.named
  have hlocks := B.notSynchronized
  have hl := lv_entry ([.int a1]) (n := 1) (Nat.le_of_ble_eq_true rfl)
  rw [lg_entry_eq]
  generalize (lg_sl ([.int a1]) ++ List.replicate (1 - (lg_sl ([.int a1])).length) Slot.unset).toArray = ls at hl ⊢
  have hl : lv_has ls 1 [(0, .int a1)] := hl
  refine lv_iload_n hx hb dJ6_bitCount_0f7a4_0 rfl (lv_at hl 0 rfl) ?_
  refine lv_iload_n hx hb dJ6_bitCount_0f7a4_1 rfl (lv_at hl 0 rfl) ?_
  refine lv_iconst (v := 1) hx hb dJ6_bitCount_0f7a4_2 (by decide) ?_
  refine lv_iushr hx hb dJ6_bitCount_0f7a4_3 rfl ?_
  refine lv_ldcw hx hb hown (hts (.constant RJ6 265 (1431655765)) (List.mem_of_getElem? (i := 1) rfl)) dJ6_bitCount_0f7a4_4 ?_
  refine lv_iand hx hb dJ6_bitCount_0f7a4_7 ?_
  refine lv_isub hx hb dJ6_bitCount_0f7a4_8 ?_
  refine lv_istore_n (lv' := [(0, .int (a1 - (((a1.toUInt32 >>> ((1 : Int32).toUInt32 &&& Int32.toUInt32 31)).toInt32) &&& 1431655765)))]) hx hb dJ6_bitCount_0f7a4_9 rfl hl (by decide) rfl (fun ls hl => ?_)
  refine lv_iload_n hx hb dJ6_bitCount_0f7a4_10 rfl (lv_at hl 0 rfl) ?_
  refine lv_ldcw hx hb hown (hts (.constant RJ6 266 (858993459)) (List.mem_of_getElem? (i := 2) rfl)) dJ6_bitCount_0f7a4_11 ?_
  refine lv_iand hx hb dJ6_bitCount_0f7a4_14 ?_
  refine lv_iload_n hx hb dJ6_bitCount_0f7a4_15 rfl (lv_at hl 0 rfl) ?_
  refine lv_iconst (v := 2) hx hb dJ6_bitCount_0f7a4_16 (by decide) ?_
  refine lv_iushr hx hb dJ6_bitCount_0f7a4_17 rfl ?_
  refine lv_ldcw hx hb hown (hts (.constant RJ6 266 (858993459)) (List.mem_of_getElem? (i := 2) rfl)) dJ6_bitCount_0f7a4_18 ?_
  refine lv_iand hx hb dJ6_bitCount_0f7a4_21 ?_
  refine lv_iadd hx hb dJ6_bitCount_0f7a4_22 ?_
  refine lv_istore_n (lv' := [(0, .int (((a1 - (((a1.toUInt32 >>> ((1 : Int32).toUInt32 &&& Int32.toUInt32 31)).toInt32) &&& 1431655765)) &&& 858993459) + ((((a1 - (((a1.toUInt32 >>> ((1 : Int32).toUInt32 &&& Int32.toUInt32 31)).toInt32) &&& 1431655765)).toUInt32 >>> ((2 : Int32).toUInt32 &&& Int32.toUInt32 31)).toInt32) &&& 858993459)))]) hx hb dJ6_bitCount_0f7a4_23 rfl hl (by decide) rfl (fun ls hl => ?_)
  refine lv_iload_n hx hb dJ6_bitCount_0f7a4_24 rfl (lv_at hl 0 rfl) ?_
  refine lv_iload_n hx hb dJ6_bitCount_0f7a4_25 rfl (lv_at hl 0 rfl) ?_
  refine lv_iconst (v := 4) hx hb dJ6_bitCount_0f7a4_26 (by decide) ?_
  refine lv_iushr hx hb dJ6_bitCount_0f7a4_27 rfl ?_
  refine lv_iadd hx hb dJ6_bitCount_0f7a4_28 ?_
  refine lv_ldcw hx hb hown (hts (.constant RJ6 267 (252645135)) (List.mem_of_getElem? (i := 3) rfl)) dJ6_bitCount_0f7a4_29 ?_
  refine lv_iand hx hb dJ6_bitCount_0f7a4_32 ?_
  refine lv_istore_n (lv' := [(0, .int (((((a1 - (((a1.toUInt32 >>> ((1 : Int32).toUInt32 &&& Int32.toUInt32 31)).toInt32) &&& 1431655765)) &&& 858993459) + ((((a1 - (((a1.toUInt32 >>> ((1 : Int32).toUInt32 &&& Int32.toUInt32 31)).toInt32) &&& 1431655765)).toUInt32 >>> ((2 : Int32).toUInt32 &&& Int32.toUInt32 31)).toInt32) &&& 858993459)) + (((((a1 - (((a1.toUInt32 >>> ((1 : Int32).toUInt32 &&& Int32.toUInt32 31)).toInt32) &&& 1431655765)) &&& 858993459) + ((((a1 - (((a1.toUInt32 >>> ((1 : Int32).toUInt32 &&& Int32.toUInt32 31)).toInt32) &&& 1431655765)).toUInt32 >>> ((2 : Int32).toUInt32 &&& Int32.toUInt32 31)).toInt32) &&& 858993459)).toUInt32 >>> ((4 : Int32).toUInt32 &&& Int32.toUInt32 31)).toInt32)) &&& 252645135))]) hx hb dJ6_bitCount_0f7a4_33 rfl hl (by decide) rfl (fun ls hl => ?_)
  refine lv_iload_n hx hb dJ6_bitCount_0f7a4_34 rfl (lv_at hl 0 rfl) ?_
  refine lv_iload_n hx hb dJ6_bitCount_0f7a4_35 rfl (lv_at hl 0 rfl) ?_
  refine lv_bipush (v := 8) hx hb dJ6_bitCount_0f7a4_36 (by decide) ?_
  refine lv_iushr hx hb dJ6_bitCount_0f7a4_38 rfl ?_
  refine lv_iadd hx hb dJ6_bitCount_0f7a4_39 ?_
  refine lv_istore_n (lv' := [(0, .int ((((((a1 - (((a1.toUInt32 >>> ((1 : Int32).toUInt32 &&& Int32.toUInt32 31)).toInt32) &&& 1431655765)) &&& 858993459) + ((((a1 - (((a1.toUInt32 >>> ((1 : Int32).toUInt32 &&& Int32.toUInt32 31)).toInt32) &&& 1431655765)).toUInt32 >>> ((2 : Int32).toUInt32 &&& Int32.toUInt32 31)).toInt32) &&& 858993459)) + (((((a1 - (((a1.toUInt32 >>> ((1 : Int32).toUInt32 &&& Int32.toUInt32 31)).toInt32) &&& 1431655765)) &&& 858993459) + ((((a1 - (((a1.toUInt32 >>> ((1 : Int32).toUInt32 &&& Int32.toUInt32 31)).toInt32) &&& 1431655765)).toUInt32 >>> ((2 : Int32).toUInt32 &&& Int32.toUInt32 31)).toInt32) &&& 858993459)).toUInt32 >>> ((4 : Int32).toUInt32 &&& Int32.toUInt32 31)).toInt32)) &&& 252645135) + (((((((a1 - (((a1.toUInt32 >>> ((1 : Int32).toUInt32 &&& Int32.toUInt32 31)).toInt32) &&& 1431655765)) &&& 858993459) + ((((a1 - (((a1.toUInt32 >>> ((1 : Int32).toUInt32 &&& Int32.toUInt32 31)).toInt32) &&& 1431655765)).toUInt32 >>> ((2 : Int32).toUInt32 &&& Int32.toUInt32 31)).toInt32) &&& 858993459)) + (((((a1 - (((a1.toUInt32 >>> ((1 : Int32).toUInt32 &&& Int32.toUInt32 31)).toInt32) &&& 1431655765)) &&& 858993459) + ((((a1 - (((a1.toUInt32 >>> ((1 : Int32).toUInt32 &&& Int32.toUInt32 31)).toInt32) &&& 1431655765)).toUInt32 >>> ((2 : Int32).toUInt32 &&& Int32.toUInt32 31)).toInt32) &&& 858993459)).toUInt32 >>> ((4 : Int32).toUInt32 &&& Int32.toUInt32 31)).toInt32)) &&& 252645135).toUInt32 >>> ((8 : Int32).toUInt32 &&& Int32.toUInt32 31)).toInt32)))]) hx hb dJ6_bitCount_0f7a4_40 rfl hl (by decide) rfl (fun ls hl => ?_)
  refine lv_iload_n hx hb dJ6_bitCount_0f7a4_41 rfl (lv_at hl 0 rfl) ?_
  refine lv_iload_n hx hb dJ6_bitCount_0f7a4_42 rfl (lv_at hl 0 rfl) ?_
  refine lv_bipush (v := 16) hx hb dJ6_bitCount_0f7a4_43 (by decide) ?_
  refine lv_iushr hx hb dJ6_bitCount_0f7a4_45 rfl ?_
  refine lv_iadd hx hb dJ6_bitCount_0f7a4_46 ?_
  refine lv_istore_n (lv' := [(0, .int (((((((a1 - (((a1.toUInt32 >>> ((1 : Int32).toUInt32 &&& Int32.toUInt32 31)).toInt32) &&& 1431655765)) &&& 858993459) + ((((a1 - (((a1.toUInt32 >>> ((1 : Int32).toUInt32 &&& Int32.toUInt32 31)).toInt32) &&& 1431655765)).toUInt32 >>> ((2 : Int32).toUInt32 &&& Int32.toUInt32 31)).toInt32) &&& 858993459)) + (((((a1 - (((a1.toUInt32 >>> ((1 : Int32).toUInt32 &&& Int32.toUInt32 31)).toInt32) &&& 1431655765)) &&& 858993459) + ((((a1 - (((a1.toUInt32 >>> ((1 : Int32).toUInt32 &&& Int32.toUInt32 31)).toInt32) &&& 1431655765)).toUInt32 >>> ((2 : Int32).toUInt32 &&& Int32.toUInt32 31)).toInt32) &&& 858993459)).toUInt32 >>> ((4 : Int32).toUInt32 &&& Int32.toUInt32 31)).toInt32)) &&& 252645135) + (((((((a1 - (((a1.toUInt32 >>> ((1 : Int32).toUInt32 &&& Int32.toUInt32 31)).toInt32) &&& 1431655765)) &&& 858993459) + ((((a1 - (((a1.toUInt32 >>> ((1 : Int32).toUInt32 &&& Int32.toUInt32 31)).toInt32) &&& 1431655765)).toUInt32 >>> ((2 : Int32).toUInt32 &&& Int32.toUInt32 31)).toInt32) &&& 858993459)) + (((((a1 - (((a1.toUInt32 >>> ((1 : Int32).toUInt32 &&& Int32.toUInt32 31)).toInt32) &&& 1431655765)) &&& 858993459) + ((((a1 - (((a1.toUInt32 >>> ((1 : Int32).toUInt32 &&& Int32.toUInt32 31)).toInt32) &&& 1431655765)).toUInt32 >>> ((2 : Int32).toUInt32 &&& Int32.toUInt32 31)).toInt32) &&& 858993459)).toUInt32 >>> ((4 : Int32).toUInt32 &&& Int32.toUInt32 31)).toInt32)) &&& 252645135).toUInt32 >>> ((8 : Int32).toUInt32 &&& Int32.toUInt32 31)).toInt32)) + ((((((((a1 - (((a1.toUInt32 >>> ((1 : Int32).toUInt32 &&& Int32.toUInt32 31)).toInt32) &&& 1431655765)) &&& 858993459) + ((((a1 - (((a1.toUInt32 >>> ((1 : Int32).toUInt32 &&& Int32.toUInt32 31)).toInt32) &&& 1431655765)).toUInt32 >>> ((2 : Int32).toUInt32 &&& Int32.toUInt32 31)).toInt32) &&& 858993459)) + (((((a1 - (((a1.toUInt32 >>> ((1 : Int32).toUInt32 &&& Int32.toUInt32 31)).toInt32) &&& 1431655765)) &&& 858993459) + ((((a1 - (((a1.toUInt32 >>> ((1 : Int32).toUInt32 &&& Int32.toUInt32 31)).toInt32) &&& 1431655765)).toUInt32 >>> ((2 : Int32).toUInt32 &&& Int32.toUInt32 31)).toInt32) &&& 858993459)).toUInt32 >>> ((4 : Int32).toUInt32 &&& Int32.toUInt32 31)).toInt32)) &&& 252645135) + (((((((a1 - (((a1.toUInt32 >>> ((1 : Int32).toUInt32 &&& Int32.toUInt32 31)).toInt32) &&& 1431655765)) &&& 858993459) + ((((a1 - (((a1.toUInt32 >>> ((1 : Int32).toUInt32 &&& Int32.toUInt32 31)).toInt32) &&& 1431655765)).toUInt32 >>> ((2 : Int32).toUInt32 &&& Int32.toUInt32 31)).toInt32) &&& 858993459)) + (((((a1 - (((a1.toUInt32 >>> ((1 : Int32).toUInt32 &&& Int32.toUInt32 31)).toInt32) &&& 1431655765)) &&& 858993459) + ((((a1 - (((a1.toUInt32 >>> ((1 : Int32).toUInt32 &&& Int32.toUInt32 31)).toInt32) &&& 1431655765)).toUInt32 >>> ((2 : Int32).toUInt32 &&& Int32.toUInt32 31)).toInt32) &&& 858993459)).toUInt32 >>> ((4 : Int32).toUInt32 &&& Int32.toUInt32 31)).toInt32)) &&& 252645135).toUInt32 >>> ((8 : Int32).toUInt32 &&& Int32.toUInt32 31)).toInt32)).toUInt32 >>> ((16 : Int32).toUInt32 &&& Int32.toUInt32 31)).toInt32)))]) hx hb dJ6_bitCount_0f7a4_47 rfl hl (by decide) rfl (fun ls hl => ?_)
  refine lv_iload_n hx hb dJ6_bitCount_0f7a4_48 rfl (lv_at hl 0 rfl) ?_
  refine lv_bipush (v := 63) hx hb dJ6_bitCount_0f7a4_49 (by decide) ?_
  refine lv_iand hx hb dJ6_bitCount_0f7a4_51 ?_
  exact W.iret (v := (((((((a1 - (((a1.toUInt32 >>> ((1 : Int32).toUInt32 &&& Int32.toUInt32 31)).toInt32) &&& 1431655765)) &&& 858993459) + ((((a1 - (((a1.toUInt32 >>> ((1 : Int32).toUInt32 &&& Int32.toUInt32 31)).toInt32) &&& 1431655765)).toUInt32 >>> ((2 : Int32).toUInt32 &&& Int32.toUInt32 31)).toInt32) &&& 858993459)) + (((((a1 - (((a1.toUInt32 >>> ((1 : Int32).toUInt32 &&& Int32.toUInt32 31)).toInt32) &&& 1431655765)) &&& 858993459) + ((((a1 - (((a1.toUInt32 >>> ((1 : Int32).toUInt32 &&& Int32.toUInt32 31)).toInt32) &&& 1431655765)).toUInt32 >>> ((2 : Int32).toUInt32 &&& Int32.toUInt32 31)).toInt32) &&& 858993459)).toUInt32 >>> ((4 : Int32).toUInt32 &&& Int32.toUInt32 31)).toInt32)) &&& 252645135) + (((((((a1 - (((a1.toUInt32 >>> ((1 : Int32).toUInt32 &&& Int32.toUInt32 31)).toInt32) &&& 1431655765)) &&& 858993459) + ((((a1 - (((a1.toUInt32 >>> ((1 : Int32).toUInt32 &&& Int32.toUInt32 31)).toInt32) &&& 1431655765)).toUInt32 >>> ((2 : Int32).toUInt32 &&& Int32.toUInt32 31)).toInt32) &&& 858993459)) + (((((a1 - (((a1.toUInt32 >>> ((1 : Int32).toUInt32 &&& Int32.toUInt32 31)).toInt32) &&& 1431655765)) &&& 858993459) + ((((a1 - (((a1.toUInt32 >>> ((1 : Int32).toUInt32 &&& Int32.toUInt32 31)).toInt32) &&& 1431655765)).toUInt32 >>> ((2 : Int32).toUInt32 &&& Int32.toUInt32 31)).toInt32) &&& 858993459)).toUInt32 >>> ((4 : Int32).toUInt32 &&& Int32.toUInt32 31)).toInt32)) &&& 252645135).toUInt32 >>> ((8 : Int32).toUInt32 &&& Int32.toUInt32 31)).toInt32)) + ((((((((a1 - (((a1.toUInt32 >>> ((1 : Int32).toUInt32 &&& Int32.toUInt32 31)).toInt32) &&& 1431655765)) &&& 858993459) + ((((a1 - (((a1.toUInt32 >>> ((1 : Int32).toUInt32 &&& Int32.toUInt32 31)).toInt32) &&& 1431655765)).toUInt32 >>> ((2 : Int32).toUInt32 &&& Int32.toUInt32 31)).toInt32) &&& 858993459)) + (((((a1 - (((a1.toUInt32 >>> ((1 : Int32).toUInt32 &&& Int32.toUInt32 31)).toInt32) &&& 1431655765)) &&& 858993459) + ((((a1 - (((a1.toUInt32 >>> ((1 : Int32).toUInt32 &&& Int32.toUInt32 31)).toInt32) &&& 1431655765)).toUInt32 >>> ((2 : Int32).toUInt32 &&& Int32.toUInt32 31)).toInt32) &&& 858993459)).toUInt32 >>> ((4 : Int32).toUInt32 &&& Int32.toUInt32 31)).toInt32)) &&& 252645135) + (((((((a1 - (((a1.toUInt32 >>> ((1 : Int32).toUInt32 &&& Int32.toUInt32 31)).toInt32) &&& 1431655765)) &&& 858993459) + ((((a1 - (((a1.toUInt32 >>> ((1 : Int32).toUInt32 &&& Int32.toUInt32 31)).toInt32) &&& 1431655765)).toUInt32 >>> ((2 : Int32).toUInt32 &&& Int32.toUInt32 31)).toInt32) &&& 858993459)) + (((((a1 - (((a1.toUInt32 >>> ((1 : Int32).toUInt32 &&& Int32.toUInt32 31)).toInt32) &&& 1431655765)) &&& 858993459) + ((((a1 - (((a1.toUInt32 >>> ((1 : Int32).toUInt32 &&& Int32.toUInt32 31)).toInt32) &&& 1431655765)).toUInt32 >>> ((2 : Int32).toUInt32 &&& Int32.toUInt32 31)).toInt32) &&& 858993459)).toUInt32 >>> ((4 : Int32).toUInt32 &&& Int32.toUInt32 31)).toInt32)) &&& 252645135).toUInt32 >>> ((8 : Int32).toUInt32 &&& Int32.toUInt32 31)).toInt32)).toUInt32 >>> ((16 : Int32).toUInt32 &&& Int32.toUInt32 31)).toInt32)) &&& 63) hx hb hr (fun t ht hW => ⟨(((((((a1 - (((a1.toUInt32 >>> ((1 : Int32).toUInt32 &&& Int32.toUInt32 31)).toInt32) &&& 1431655765)) &&& 858993459) + ((((a1 - (((a1.toUInt32 >>> ((1 : Int32).toUInt32 &&& Int32.toUInt32 31)).toInt32) &&& 1431655765)).toUInt32 >>> ((2 : Int32).toUInt32 &&& Int32.toUInt32 31)).toInt32) &&& 858993459)) + (((((a1 - (((a1.toUInt32 >>> ((1 : Int32).toUInt32 &&& Int32.toUInt32 31)).toInt32) &&& 1431655765)) &&& 858993459) + ((((a1 - (((a1.toUInt32 >>> ((1 : Int32).toUInt32 &&& Int32.toUInt32 31)).toInt32) &&& 1431655765)).toUInt32 >>> ((2 : Int32).toUInt32 &&& Int32.toUInt32 31)).toInt32) &&& 858993459)).toUInt32 >>> ((4 : Int32).toUInt32 &&& Int32.toUInt32 31)).toInt32)) &&& 252645135) + (((((((a1 - (((a1.toUInt32 >>> ((1 : Int32).toUInt32 &&& Int32.toUInt32 31)).toInt32) &&& 1431655765)) &&& 858993459) + ((((a1 - (((a1.toUInt32 >>> ((1 : Int32).toUInt32 &&& Int32.toUInt32 31)).toInt32) &&& 1431655765)).toUInt32 >>> ((2 : Int32).toUInt32 &&& Int32.toUInt32 31)).toInt32) &&& 858993459)) + (((((a1 - (((a1.toUInt32 >>> ((1 : Int32).toUInt32 &&& Int32.toUInt32 31)).toInt32) &&& 1431655765)) &&& 858993459) + ((((a1 - (((a1.toUInt32 >>> ((1 : Int32).toUInt32 &&& Int32.toUInt32 31)).toInt32) &&& 1431655765)).toUInt32 >>> ((2 : Int32).toUInt32 &&& Int32.toUInt32 31)).toInt32) &&& 858993459)).toUInt32 >>> ((4 : Int32).toUInt32 &&& Int32.toUInt32 31)).toInt32)) &&& 252645135).toUInt32 >>> ((8 : Int32).toUInt32 &&& Int32.toUInt32 31)).toInt32)) + ((((((((a1 - (((a1.toUInt32 >>> ((1 : Int32).toUInt32 &&& Int32.toUInt32 31)).toInt32) &&& 1431655765)) &&& 858993459) + ((((a1 - (((a1.toUInt32 >>> ((1 : Int32).toUInt32 &&& Int32.toUInt32 31)).toInt32) &&& 1431655765)).toUInt32 >>> ((2 : Int32).toUInt32 &&& Int32.toUInt32 31)).toInt32) &&& 858993459)) + (((((a1 - (((a1.toUInt32 >>> ((1 : Int32).toUInt32 &&& Int32.toUInt32 31)).toInt32) &&& 1431655765)) &&& 858993459) + ((((a1 - (((a1.toUInt32 >>> ((1 : Int32).toUInt32 &&& Int32.toUInt32 31)).toInt32) &&& 1431655765)).toUInt32 >>> ((2 : Int32).toUInt32 &&& Int32.toUInt32 31)).toInt32) &&& 858993459)).toUInt32 >>> ((4 : Int32).toUInt32 &&& Int32.toUInt32 31)).toInt32)) &&& 252645135) + (((((((a1 - (((a1.toUInt32 >>> ((1 : Int32).toUInt32 &&& Int32.toUInt32 31)).toInt32) &&& 1431655765)) &&& 858993459) + ((((a1 - (((a1.toUInt32 >>> ((1 : Int32).toUInt32 &&& Int32.toUInt32 31)).toInt32) &&& 1431655765)).toUInt32 >>> ((2 : Int32).toUInt32 &&& Int32.toUInt32 31)).toInt32) &&& 858993459)) + (((((a1 - (((a1.toUInt32 >>> ((1 : Int32).toUInt32 &&& Int32.toUInt32 31)).toInt32) &&& 1431655765)) &&& 858993459) + ((((a1 - (((a1.toUInt32 >>> ((1 : Int32).toUInt32 &&& Int32.toUInt32 31)).toInt32) &&& 1431655765)).toUInt32 >>> ((2 : Int32).toUInt32 &&& Int32.toUInt32 31)).toInt32) &&& 858993459)).toUInt32 >>> ((4 : Int32).toUInt32 &&& Int32.toUInt32 31)).toInt32)) &&& 252645135).toUInt32 >>> ((8 : Int32).toUInt32 &&& Int32.toUInt32 31)).toInt32)).toUInt32 >>> ((16 : Int32).toUInt32 &&& Int32.toUInt32 31)).toInt32)) &&& 63, rfl, (fun h9 => by subst h9; decide), ht⟩) (fun _ h9 => by cases h9) dJ6_bitCount_0f7a4_52
set_option maxHeartbeats 4000000 in
set_option maxRecDepth 100000 in
theorem s_X8_hasBit (l : Launch) (b k : Int32) : Met l yX8_hasBit wsX8_hasBit ({ frames := 0, cells := 0, slots := 0, locals := 0 }) (va_Pc [.int b, .int k] (fun _ => True)) (vp_Si (fun r => (r = 0 ∧ (b >>> (k &&& 31) &&& 1) = 0) ∨ r = 1)) 0 0 (fun _ => False) := by
  refine Met.ofW (cc := cX8_hasBit) (maxL := 2) (ret := (some .boolean)) (by decide) rfl ?_
  intro p e s m args below meth c s₁ B hml hv
  obtain ⟨rfl, -⟩ := hv
  have hx := B.exec
  have hb := B.bytes
  have hr := B.returns
  have hts := atoms_spec (ws := wsX8_hasBit) B.pre
  have hown : s.vm.findClass RX8 = some m.cls := findClass_of_methodNamed B.named
  have hlocks := B.notSynchronized
  have hl := lv_entry ([.int b, .int k]) (n := 2) (Nat.le_of_ble_eq_true rfl)
  rw [lg_entry_eq]
  generalize (lg_sl ([.int b, .int k]) ++ List.replicate (2 - (lg_sl ([.int b, .int k])).length) Slot.unset).toArray = ls at hl ⊢
  have hl : lv_has ls 2 [(0, .int b), (1, .int k)] := hl
  refine lv_iload_n hx hb dX8_hasBit_0 rfl (lv_at hl 0 rfl) ?_
  refine lv_iload_n hx hb dX8_hasBit_1 rfl (lv_at hl 1 rfl) ?_
  refine lv_ishr hx hb dX8_hasBit_2 ?_
  refine lv_iconst (v := 1) hx hb dX8_hasBit_3 (by decide) ?_
  refine lv_iand hx hb dX8_hasBit_4 ?_
  refine lv_iconst (v := 1) hx hb dX8_hasBit_5 (by decide) ?_
  refine lv_icmp_ne (tgt := 13) hx hb dX8_hasBit_6 (by decide) (fun c_1 => ?_) (fun c_1 => ?_)
  · refine lv_iconst (v := 0) hx hb dX8_hasBit_13 (by decide) ?_
    exact W.zret (v := 0) hx hb hr rfl (fun t ht hW => ⟨0, rfl, Or.inl ⟨rfl, and1n c_1⟩, ht⟩) (fun _ h9 => by cases h9) dX8_hasBit_14
  refine lv_iconst (v := 1) hx hb dX8_hasBit_9 (by decide) ?_
  refine lv_goto (tgt := 14) hx hb dX8_hasBit_10 (by decide) ?_
  exact W.zret (v := 1) hx hb hr rfl (fun t ht hW => ⟨1, rfl, Or.inr rfl, ht⟩) (fun _ h9 => by cases h9) dX8_hasBit_14
set_option maxHeartbeats 4000000 in
set_option maxRecDepth 100000 in
theorem s_X8_areTanksToBlend (l : Launch) (D : va_G) (ws : va_W) (tys : List (ClassId × FieldType)) (h0 : Nat) (X : XF ws tys h0) (a1 : Int32) : Met l yX8_areTanksToBlend wsX8_areTanksToBlend ({ frames := 1, cells := 0, slots := 0, locals := 22 }) (va_Pc [.ref h0, .int a1] (fun U => va_P D vwCl ws U.heap ∧ va_K D vwCl tys U)) (vp_Si (fun r => r = 0)) 0 0 (fun _ => False) := by
  refine Met.ofW (cc := cX8_areTanksToBlend) (maxL := 3) (ret := (some .boolean)) (by decide) rfl ?_
  intro p e s m args below meth c s₁ B hml hv
  obtain ⟨rfl, hP, hK⟩ := hv
  have hx := B.exec
  have hb := B.bytes
  have hr := B.returns
  have hts := atoms_spec (ws := wsX8_areTanksToBlend) B.pre
  have hown : s.vm.findClass RX8 = some m.cls := findClass_of_methodNamed B.named
  have hlocks := B.notSynchronized
  have hin7 : ∀ w ∈ u_ws RX7 TX7 5, w ∈ wsX8_areTanksToBlend := (fun _ h9 => List.mem_cons_of_mem _ ((List.mem_append_right _ h9)))
  have hin8 : ∀ w ∈ u_ws RX8 TX8 15, w ∈ wsX8_areTanksToBlend := (fun _ h9 => List.mem_cons_of_mem _ (List.mem_append_left _ ((List.mem_append_right _ h9))))
  have hl := lv_entry ([.ref h0, .int a1]) (n := 3) (Nat.le_of_ble_eq_true rfl)
  rw [lg_entry_eq]
  generalize (lg_sl ([.ref h0, .int a1]) ++ List.replicate (3 - (lg_sl ([.ref h0, .int a1])).length) Slot.unset).toArray = ls at hl ⊢
  have hl : lv_has ls 3 [(0, .ref h0), (1, .int a1)] := hl
  have X0 := X
  obtain ⟨k0, la, ta, ba, ra, sn, rd, dr, bl, vd, fb, k1, k2, k3, k4, k5, k6, c1, c2, c3, c4, t1, t2, t3, t4, g, bs, rs, e0, e1, u1, e2, u2, e3, u3, e4, u4, e5, fb1, e6, fr3, fr4, hT⟩ := X
  refine lv_iload_n hx hb dX8_areTanksToBlend_0 rfl (lv_at hl 1 rfl) ?_
  refine lv_bipush (v := 10) hx hb dX8_areTanksToBlend_1 (by decide) ?_
  refine lv_ishr hx hb dX8_areTanksToBlend_3 ?_
  refine lv_if_ne (tgt := 19) hx hb dX8_areTanksToBlend_4 (by decide) (fun c_1 => ?_) (fun c_1 => ?_)
  · refine lv_iconst (v := 0) hx hb dX8_areTanksToBlend_19 (by decide) ?_
    exact W.zret (v := 0) hx hb hr rfl (fun t ht hW => ⟨0, rfl, (by first | rfl | (simp_all; done) | simp [c_1]), ht⟩) (fun _ h9 => by cases h9) dX8_areTanksToBlend_20
  refine lv_iload_n hx hb dX8_areTanksToBlend_7 rfl (lv_at hl 1 rfl) ?_
  refine vp_callSi (W.runS (As := [.int a1]) (rest := []) ⟨hx, hb, hml, hown, hts⟩ (s_J6_bitCount l a1) (va_cwS 1 hts gX8_areTanksToBlend_J6_bitCount_0f7a4 rfl rfl rfl (by decide +kernel) ⟨Nat.le_of_ble_eq_true rfl, Nat.le_of_ble_eq_true rfl⟩) ⟨fun a U g mk q => q, fun U hU hW => ⟨rfl, trivial⟩⟩ rfl rfl hl.1 rfl (lv_room (Nat.le_of_ble_eq_true rfl)) dX8_areTanksToBlend_8 ⟨Nat.le_of_ble_eq_true rfl, Nat.le_of_ble_eq_true rfl⟩) (fun r_2 k_3 => ?_)
  refine lv_iconst (v := 1) hx hb dX8_areTanksToBlend_11 (by decide) ?_
  refine lv_iconst (v := 4) hx hb dX8_areTanksToBlend_12 (by decide) ?_
  refine vp_callSi (W.runS (As := [.int r_2, .int 1, .int 4]) (rest := []) ⟨hx, hb, hml, hown, hts⟩ (s_X8_isIn l r_2 1 4) (va_cwS 3 hts gX8_areTanksToBlend_X8_isIn rfl rfl rfl (by decide +kernel) ⟨Nat.le_of_ble_eq_true rfl, Nat.le_of_ble_eq_true rfl⟩) ⟨fun a U g mk q => q, fun U hU hW => ⟨rfl, trivial⟩⟩ rfl rfl hl.1 rfl (lv_room (Nat.le_of_ble_eq_true rfl)) dX8_areTanksToBlend_13 ⟨Nat.le_of_ble_eq_true rfl, Nat.le_of_ble_eq_true rfl⟩) (fun r_4 k_5 => ?_)
  rcases k_5 with ⟨rfl, a_6o⟩ | ⟨rfl, a_6, b_7⟩
  · refine lv_if_ne (tgt := 21) hx hb dX8_areTanksToBlend_16 (by decide) (fun c_8 => absurd (by decide) c_8) (fun c_8 => ?_)
    refine lv_iconst (v := 0) hx hb dX8_areTanksToBlend_19 (by decide) ?_
    exact W.zret (v := 0) hx hb hr rfl (fun t ht hW => ⟨0, rfl, (by rcases a_6o with a_6o | a_6o <;> simp_all), ht⟩) (fun _ h9 => by cases h9) dX8_areTanksToBlend_20
  refine lv_if_ne (tgt := 21) hx hb dX8_areTanksToBlend_16 (by decide) (fun c_9 => ?_) (fun c_9 => absurd c_9 (by decide))
  refine lv_iconst (v := 0) hx hb dX8_areTanksToBlend_21 (by decide) ?_
  refine lv_istore_n (lv' := [(2, .int 0), (0, .ref h0), (1, .int a1)]) hx hb dX8_areTanksToBlend_22 rfl hl (by decide) rfl (fun ls hl => ?_)
  refine lv_iload_n hx hb dX8_areTanksToBlend_23 rfl (lv_at hl 0 rfl) ?_
  refine lv_aload_n hx hb dX8_areTanksToBlend_24 rfl (lv_at hl 1 rfl) ?_
  refine va_get (D := D) (ci := 8) (v := .ref ta) (C := RX8) (T := TX8) (N := 15) hx hb hts hin8 hown hK hP k0 e0 rfl 1 (by decide) (hts (.fieldLink RX8 17 "HoneyHouse" "tanks" "[LHoneyHouse$Vessel;") (List.mem_of_getElem? (i := 1) rfl)) (fun _ h9 => h9) rfl dX8_areTanksToBlend_25 ?_
  refine va_alen (v := 10) hx hb hK hP k2 t2 e2 u2 rfl dX8_areTanksToBlend_28 ?_
  refine lv_icmp_ge (tgt := 69) hx hb dX8_areTanksToBlend_29 (by decide) (fun c_10 => absurd c_10 (by decide)) (fun c_10 => ?_)
  refine lv_iload_n hx hb dX8_areTanksToBlend_32 rfl (lv_at hl 2 rfl) ?_
  refine lv_iload_n hx hb dX8_areTanksToBlend_33 rfl (lv_at hl 0 rfl) ?_
  refine vp_callSi (W.runS (As := [.int a1, .int 0]) (rest := []) ⟨hx, hb, hml, hown, hts⟩ (s_X8_hasBit l a1 0) (va_cwS 2 hts gX8_areTanksToBlend_X8_hasBit rfl rfl rfl (by decide +kernel) ⟨Nat.le_of_ble_eq_true rfl, Nat.le_of_ble_eq_true rfl⟩) ⟨fun a U g mk q => q, fun U hU hW => ⟨rfl, trivial⟩⟩ rfl rfl hl.1 rfl (lv_room (Nat.le_of_ble_eq_true rfl)) dX8_areTanksToBlend_34 ⟨Nat.le_of_ble_eq_true rfl, Nat.le_of_ble_eq_true rfl⟩) (fun r_11 k_12 => ?_)
  rcases (or_comm.mp k_12) with rfl | ⟨rfl, a_13⟩
  · refine lv_if_eq (tgt := 63) hx hb dX8_areTanksToBlend_37 (by decide) (fun c_14 => absurd c_14 (by decide)) (fun c_14 => ?_)
    refine lv_aload_n hx hb dX8_areTanksToBlend_40 rfl (lv_at hl 1 rfl) ?_
    refine va_get (D := D) (ci := 8) (v := .ref ta) (C := RX8) (T := TX8) (N := 15) hx hb hts hin8 hown hK hP k0 e0 rfl 1 (by decide) (hts (.fieldLink RX8 17 "HoneyHouse" "tanks" "[LHoneyHouse$Vessel;") (List.mem_of_getElem? (i := 1) rfl)) (fun _ h9 => h9) rfl dX8_areTanksToBlend_41 ?_
    refine lv_iload_n hx hb dX8_areTanksToBlend_44 rfl (lv_at hl 0 rfl) ?_
    refine va_aldq (f := g) (n := 10) hx hb hK hP k2 t2 e2 u2 (vp_in_iff.mpr (by decide)) dX8_areTanksToBlend_45 ?_
    obtain ⟨v_15, kv_16, gr_17, kg_18, ci_19, ti_20, gv_21, ev_22, eg_23, ut_24⟩ := hT 0 (by omega)
    refine tp_v (y := .ref v_15) (by rw [show (0 : Int32).toNatClampNeg = 0 from by decide, gv_21]; rfl) ?_
    refine lv_ifnull hx hb dX8_areTanksToBlend_46 ?_
    refine lv_aload_n hx hb dX8_areTanksToBlend_49 rfl (lv_at hl 1 rfl) ?_
    refine va_get (D := D) (ci := 8) (v := .ref ta) (C := RX8) (T := TX8) (N := 15) hx hb hts hin8 hown hK hP k0 e0 rfl 1 (by decide) (hts (.fieldLink RX8 17 "HoneyHouse" "tanks" "[LHoneyHouse$Vessel;") (List.mem_of_getElem? (i := 1) rfl)) (fun _ h9 => h9) rfl dX8_areTanksToBlend_50 ?_
    refine lv_iload_n hx hb dX8_areTanksToBlend_53 rfl (lv_at hl 0 rfl) ?_
    refine va_aldq (f := g) (n := 10) hx hb hK hP k2 t2 e2 u2 (vp_in_iff.mpr (by decide)) dX8_areTanksToBlend_54 ?_
    obtain ⟨v_25, kv_26, gr_27, kg_28, ci_29, ti_30, gv_31, ev_32, eg_33, ut_34⟩ := hT 0 (by omega)
    refine tp_v (y := .ref v_25) (by rw [show (0 : Int32).toNatClampNeg = 0 from by decide, gv_31]; rfl) ?_
    refine va_get (D := D) (ci := 7) (v := .int 0) (C := RX7) (T := TX7) (N := 5) hx hb hts hin7 hown hK hP kv_26 ev_32 rfl 1 (by decide) (hts (.fieldLink RX8 144 "HoneyHouse$Vessel" "total" "I") (List.mem_of_getElem? (i := 2) rfl)) (fun _ h9 => h9) rfl dX8_areTanksToBlend_55 ?_
    refine lv_if_ne (tgt := 63) hx hb dX8_areTanksToBlend_58 (by decide) (fun c_35 => absurd (by decide) c_35) (fun c_35 => ?_)
    refine lv_iconst (v := 0) hx hb dX8_areTanksToBlend_61 (by decide) ?_
    exact W.zret (v := 0) hx hb hr rfl (fun t ht hW => ⟨0, rfl, (by first | rfl | (simp_all; done) | simp [c_1, k_3, a_6, b_7, c_9, c_10, c_14, c_35]), ht⟩) (fun _ h9 => by cases h9) dX8_areTanksToBlend_62
  refine lv_if_eq (tgt := 63) hx hb dX8_areTanksToBlend_37 (by decide) (fun c_36 => ?_) (fun c_36 => absurd (by decide) c_36)
  refine lv_iinc (v := 1) (lv' := [(2, .int 1), (0, .ref h0), (1, .int a1)]) hx hb dX8_areTanksToBlend_63 hl (k := 0) rfl (by decide) (by decide) rfl (fun ls hl => ?_)
  refine lv_goto (tgt := 23) hx hb dX8_areTanksToBlend_66 (by decide) ?_
  refine lv_iload_n hx hb dX8_areTanksToBlend_23 rfl (lv_at hl 0 rfl) ?_
  refine lv_aload_n hx hb dX8_areTanksToBlend_24 rfl (lv_at hl 1 rfl) ?_
  refine va_get (D := D) (ci := 8) (v := .ref ta) (C := RX8) (T := TX8) (N := 15) hx hb hts hin8 hown hK hP k0 e0 rfl 1 (by decide) (hts (.fieldLink RX8 17 "HoneyHouse" "tanks" "[LHoneyHouse$Vessel;") (List.mem_of_getElem? (i := 1) rfl)) (fun _ h9 => h9) rfl dX8_areTanksToBlend_25 ?_
  refine va_alen (v := 10) hx hb hK hP k2 t2 e2 u2 rfl dX8_areTanksToBlend_28 ?_
  refine lv_icmp_ge (tgt := 69) hx hb dX8_areTanksToBlend_29 (by decide) (fun c_37 => absurd c_37 (by decide)) (fun c_37 => ?_)
  refine lv_iload_n hx hb dX8_areTanksToBlend_32 rfl (lv_at hl 2 rfl) ?_
  refine lv_iload_n hx hb dX8_areTanksToBlend_33 rfl (lv_at hl 0 rfl) ?_
  refine vp_callSi (W.runS (As := [.int a1, .int 1]) (rest := []) ⟨hx, hb, hml, hown, hts⟩ (s_X8_hasBit l a1 1) (va_cwS 2 hts gX8_areTanksToBlend_X8_hasBit rfl rfl rfl (by decide +kernel) ⟨Nat.le_of_ble_eq_true rfl, Nat.le_of_ble_eq_true rfl⟩) ⟨fun a U g mk q => q, fun U hU hW => ⟨rfl, trivial⟩⟩ rfl rfl hl.1 rfl (lv_room (Nat.le_of_ble_eq_true rfl)) dX8_areTanksToBlend_34 ⟨Nat.le_of_ble_eq_true rfl, Nat.le_of_ble_eq_true rfl⟩) (fun r_38 k_39 => ?_)
  rcases (or_comm.mp k_39) with rfl | ⟨rfl, a_40⟩
  · refine lv_if_eq (tgt := 63) hx hb dX8_areTanksToBlend_37 (by decide) (fun c_41 => absurd c_41 (by decide)) (fun c_41 => ?_)
    refine lv_aload_n hx hb dX8_areTanksToBlend_40 rfl (lv_at hl 1 rfl) ?_
    refine va_get (D := D) (ci := 8) (v := .ref ta) (C := RX8) (T := TX8) (N := 15) hx hb hts hin8 hown hK hP k0 e0 rfl 1 (by decide) (hts (.fieldLink RX8 17 "HoneyHouse" "tanks" "[LHoneyHouse$Vessel;") (List.mem_of_getElem? (i := 1) rfl)) (fun _ h9 => h9) rfl dX8_areTanksToBlend_41 ?_
    refine lv_iload_n hx hb dX8_areTanksToBlend_44 rfl (lv_at hl 0 rfl) ?_
    refine va_aldq (f := g) (n := 10) hx hb hK hP k2 t2 e2 u2 (vp_in_iff.mpr (by decide)) dX8_areTanksToBlend_45 ?_
    obtain ⟨v_42, kv_43, gr_44, kg_45, ci_46, ti_47, gv_48, ev_49, eg_50, ut_51⟩ := hT 1 (by omega)
    refine tp_v (y := .ref v_42) (by rw [show (1 : Int32).toNatClampNeg = 1 from by decide, gv_48]; rfl) ?_
    refine lv_ifnull hx hb dX8_areTanksToBlend_46 ?_
    refine lv_aload_n hx hb dX8_areTanksToBlend_49 rfl (lv_at hl 1 rfl) ?_
    refine va_get (D := D) (ci := 8) (v := .ref ta) (C := RX8) (T := TX8) (N := 15) hx hb hts hin8 hown hK hP k0 e0 rfl 1 (by decide) (hts (.fieldLink RX8 17 "HoneyHouse" "tanks" "[LHoneyHouse$Vessel;") (List.mem_of_getElem? (i := 1) rfl)) (fun _ h9 => h9) rfl dX8_areTanksToBlend_50 ?_
    refine lv_iload_n hx hb dX8_areTanksToBlend_53 rfl (lv_at hl 0 rfl) ?_
    refine va_aldq (f := g) (n := 10) hx hb hK hP k2 t2 e2 u2 (vp_in_iff.mpr (by decide)) dX8_areTanksToBlend_54 ?_
    obtain ⟨v_52, kv_53, gr_54, kg_55, ci_56, ti_57, gv_58, ev_59, eg_60, ut_61⟩ := hT 1 (by omega)
    refine tp_v (y := .ref v_52) (by rw [show (1 : Int32).toNatClampNeg = 1 from by decide, gv_58]; rfl) ?_
    refine va_get (D := D) (ci := 7) (v := .int 0) (C := RX7) (T := TX7) (N := 5) hx hb hts hin7 hown hK hP kv_53 ev_59 rfl 1 (by decide) (hts (.fieldLink RX8 144 "HoneyHouse$Vessel" "total" "I") (List.mem_of_getElem? (i := 2) rfl)) (fun _ h9 => h9) rfl dX8_areTanksToBlend_55 ?_
    refine lv_if_ne (tgt := 63) hx hb dX8_areTanksToBlend_58 (by decide) (fun c_62 => absurd (by decide) c_62) (fun c_62 => ?_)
    refine lv_iconst (v := 0) hx hb dX8_areTanksToBlend_61 (by decide) ?_
    exact W.zret (v := 0) hx hb hr rfl (fun t ht hW => ⟨0, rfl, (by first | rfl | (simp_all; done) | simp [c_1, k_3, a_6, b_7, c_9, c_10, a_13, c_36, c_37, c_41, c_62]), ht⟩) (fun _ h9 => by cases h9) dX8_areTanksToBlend_62
  refine lv_if_eq (tgt := 63) hx hb dX8_areTanksToBlend_37 (by decide) (fun c_63 => ?_) (fun c_63 => absurd (by decide) c_63)
  refine lv_iinc (v := 2) (lv' := [(2, .int 2), (0, .ref h0), (1, .int a1)]) hx hb dX8_areTanksToBlend_63 hl (k := 0) rfl (by decide) (by decide) rfl (fun ls hl => ?_)
  refine lv_goto (tgt := 23) hx hb dX8_areTanksToBlend_66 (by decide) ?_
  refine lv_iload_n hx hb dX8_areTanksToBlend_23 rfl (lv_at hl 0 rfl) ?_
  refine lv_aload_n hx hb dX8_areTanksToBlend_24 rfl (lv_at hl 1 rfl) ?_
  refine va_get (D := D) (ci := 8) (v := .ref ta) (C := RX8) (T := TX8) (N := 15) hx hb hts hin8 hown hK hP k0 e0 rfl 1 (by decide) (hts (.fieldLink RX8 17 "HoneyHouse" "tanks" "[LHoneyHouse$Vessel;") (List.mem_of_getElem? (i := 1) rfl)) (fun _ h9 => h9) rfl dX8_areTanksToBlend_25 ?_
  refine va_alen (v := 10) hx hb hK hP k2 t2 e2 u2 rfl dX8_areTanksToBlend_28 ?_
  refine lv_icmp_ge (tgt := 69) hx hb dX8_areTanksToBlend_29 (by decide) (fun c_64 => absurd c_64 (by decide)) (fun c_64 => ?_)
  refine lv_iload_n hx hb dX8_areTanksToBlend_32 rfl (lv_at hl 2 rfl) ?_
  refine lv_iload_n hx hb dX8_areTanksToBlend_33 rfl (lv_at hl 0 rfl) ?_
  refine vp_callSi (W.runS (As := [.int a1, .int 2]) (rest := []) ⟨hx, hb, hml, hown, hts⟩ (s_X8_hasBit l a1 2) (va_cwS 2 hts gX8_areTanksToBlend_X8_hasBit rfl rfl rfl (by decide +kernel) ⟨Nat.le_of_ble_eq_true rfl, Nat.le_of_ble_eq_true rfl⟩) ⟨fun a U g mk q => q, fun U hU hW => ⟨rfl, trivial⟩⟩ rfl rfl hl.1 rfl (lv_room (Nat.le_of_ble_eq_true rfl)) dX8_areTanksToBlend_34 ⟨Nat.le_of_ble_eq_true rfl, Nat.le_of_ble_eq_true rfl⟩) (fun r_65 k_66 => ?_)
  rcases (or_comm.mp k_66) with rfl | ⟨rfl, a_67⟩
  · refine lv_if_eq (tgt := 63) hx hb dX8_areTanksToBlend_37 (by decide) (fun c_68 => absurd c_68 (by decide)) (fun c_68 => ?_)
    refine lv_aload_n hx hb dX8_areTanksToBlend_40 rfl (lv_at hl 1 rfl) ?_
    refine va_get (D := D) (ci := 8) (v := .ref ta) (C := RX8) (T := TX8) (N := 15) hx hb hts hin8 hown hK hP k0 e0 rfl 1 (by decide) (hts (.fieldLink RX8 17 "HoneyHouse" "tanks" "[LHoneyHouse$Vessel;") (List.mem_of_getElem? (i := 1) rfl)) (fun _ h9 => h9) rfl dX8_areTanksToBlend_41 ?_
    refine lv_iload_n hx hb dX8_areTanksToBlend_44 rfl (lv_at hl 0 rfl) ?_
    refine va_aldq (f := g) (n := 10) hx hb hK hP k2 t2 e2 u2 (vp_in_iff.mpr (by decide)) dX8_areTanksToBlend_45 ?_
    obtain ⟨v_69, kv_70, gr_71, kg_72, ci_73, ti_74, gv_75, ev_76, eg_77, ut_78⟩ := hT 2 (by omega)
    refine tp_v (y := .ref v_69) (by rw [show (2 : Int32).toNatClampNeg = 2 from by decide, gv_75]; rfl) ?_
    refine lv_ifnull hx hb dX8_areTanksToBlend_46 ?_
    refine lv_aload_n hx hb dX8_areTanksToBlend_49 rfl (lv_at hl 1 rfl) ?_
    refine va_get (D := D) (ci := 8) (v := .ref ta) (C := RX8) (T := TX8) (N := 15) hx hb hts hin8 hown hK hP k0 e0 rfl 1 (by decide) (hts (.fieldLink RX8 17 "HoneyHouse" "tanks" "[LHoneyHouse$Vessel;") (List.mem_of_getElem? (i := 1) rfl)) (fun _ h9 => h9) rfl dX8_areTanksToBlend_50 ?_
    refine lv_iload_n hx hb dX8_areTanksToBlend_53 rfl (lv_at hl 0 rfl) ?_
    refine va_aldq (f := g) (n := 10) hx hb hK hP k2 t2 e2 u2 (vp_in_iff.mpr (by decide)) dX8_areTanksToBlend_54 ?_
    obtain ⟨v_79, kv_80, gr_81, kg_82, ci_83, ti_84, gv_85, ev_86, eg_87, ut_88⟩ := hT 2 (by omega)
    refine tp_v (y := .ref v_79) (by rw [show (2 : Int32).toNatClampNeg = 2 from by decide, gv_85]; rfl) ?_
    refine va_get (D := D) (ci := 7) (v := .int 0) (C := RX7) (T := TX7) (N := 5) hx hb hts hin7 hown hK hP kv_80 ev_86 rfl 1 (by decide) (hts (.fieldLink RX8 144 "HoneyHouse$Vessel" "total" "I") (List.mem_of_getElem? (i := 2) rfl)) (fun _ h9 => h9) rfl dX8_areTanksToBlend_55 ?_
    refine lv_if_ne (tgt := 63) hx hb dX8_areTanksToBlend_58 (by decide) (fun c_89 => absurd (by decide) c_89) (fun c_89 => ?_)
    refine lv_iconst (v := 0) hx hb dX8_areTanksToBlend_61 (by decide) ?_
    exact W.zret (v := 0) hx hb hr rfl (fun t ht hW => ⟨0, rfl, (by first | rfl | (simp_all; done) | simp [c_1, k_3, a_6, b_7, c_9, c_10, a_13, c_36, c_37, a_40, c_63, c_64, c_68, c_89]), ht⟩) (fun _ h9 => by cases h9) dX8_areTanksToBlend_62
  refine lv_if_eq (tgt := 63) hx hb dX8_areTanksToBlend_37 (by decide) (fun c_90 => ?_) (fun c_90 => absurd (by decide) c_90)
  refine lv_iinc (v := 3) (lv' := [(2, .int 3), (0, .ref h0), (1, .int a1)]) hx hb dX8_areTanksToBlend_63 hl (k := 0) rfl (by decide) (by decide) rfl (fun ls hl => ?_)
  refine lv_goto (tgt := 23) hx hb dX8_areTanksToBlend_66 (by decide) ?_
  refine lv_iload_n hx hb dX8_areTanksToBlend_23 rfl (lv_at hl 0 rfl) ?_
  refine lv_aload_n hx hb dX8_areTanksToBlend_24 rfl (lv_at hl 1 rfl) ?_
  refine va_get (D := D) (ci := 8) (v := .ref ta) (C := RX8) (T := TX8) (N := 15) hx hb hts hin8 hown hK hP k0 e0 rfl 1 (by decide) (hts (.fieldLink RX8 17 "HoneyHouse" "tanks" "[LHoneyHouse$Vessel;") (List.mem_of_getElem? (i := 1) rfl)) (fun _ h9 => h9) rfl dX8_areTanksToBlend_25 ?_
  refine va_alen (v := 10) hx hb hK hP k2 t2 e2 u2 rfl dX8_areTanksToBlend_28 ?_
  refine lv_icmp_ge (tgt := 69) hx hb dX8_areTanksToBlend_29 (by decide) (fun c_91 => absurd c_91 (by decide)) (fun c_91 => ?_)
  refine lv_iload_n hx hb dX8_areTanksToBlend_32 rfl (lv_at hl 2 rfl) ?_
  refine lv_iload_n hx hb dX8_areTanksToBlend_33 rfl (lv_at hl 0 rfl) ?_
  refine vp_callSi (W.runS (As := [.int a1, .int 3]) (rest := []) ⟨hx, hb, hml, hown, hts⟩ (s_X8_hasBit l a1 3) (va_cwS 2 hts gX8_areTanksToBlend_X8_hasBit rfl rfl rfl (by decide +kernel) ⟨Nat.le_of_ble_eq_true rfl, Nat.le_of_ble_eq_true rfl⟩) ⟨fun a U g mk q => q, fun U hU hW => ⟨rfl, trivial⟩⟩ rfl rfl hl.1 rfl (lv_room (Nat.le_of_ble_eq_true rfl)) dX8_areTanksToBlend_34 ⟨Nat.le_of_ble_eq_true rfl, Nat.le_of_ble_eq_true rfl⟩) (fun r_92 k_93 => ?_)
  rcases (or_comm.mp k_93) with rfl | ⟨rfl, a_94⟩
  · refine lv_if_eq (tgt := 63) hx hb dX8_areTanksToBlend_37 (by decide) (fun c_95 => absurd c_95 (by decide)) (fun c_95 => ?_)
    refine lv_aload_n hx hb dX8_areTanksToBlend_40 rfl (lv_at hl 1 rfl) ?_
    refine va_get (D := D) (ci := 8) (v := .ref ta) (C := RX8) (T := TX8) (N := 15) hx hb hts hin8 hown hK hP k0 e0 rfl 1 (by decide) (hts (.fieldLink RX8 17 "HoneyHouse" "tanks" "[LHoneyHouse$Vessel;") (List.mem_of_getElem? (i := 1) rfl)) (fun _ h9 => h9) rfl dX8_areTanksToBlend_41 ?_
    refine lv_iload_n hx hb dX8_areTanksToBlend_44 rfl (lv_at hl 0 rfl) ?_
    refine va_aldq (f := g) (n := 10) hx hb hK hP k2 t2 e2 u2 (vp_in_iff.mpr (by decide)) dX8_areTanksToBlend_45 ?_
    obtain ⟨v_96, kv_97, gr_98, kg_99, ci_100, ti_101, gv_102, ev_103, eg_104, ut_105⟩ := hT 3 (by omega)
    refine tp_v (y := .ref v_96) (by rw [show (3 : Int32).toNatClampNeg = 3 from by decide, gv_102]; rfl) ?_
    refine lv_ifnull hx hb dX8_areTanksToBlend_46 ?_
    refine lv_aload_n hx hb dX8_areTanksToBlend_49 rfl (lv_at hl 1 rfl) ?_
    refine va_get (D := D) (ci := 8) (v := .ref ta) (C := RX8) (T := TX8) (N := 15) hx hb hts hin8 hown hK hP k0 e0 rfl 1 (by decide) (hts (.fieldLink RX8 17 "HoneyHouse" "tanks" "[LHoneyHouse$Vessel;") (List.mem_of_getElem? (i := 1) rfl)) (fun _ h9 => h9) rfl dX8_areTanksToBlend_50 ?_
    refine lv_iload_n hx hb dX8_areTanksToBlend_53 rfl (lv_at hl 0 rfl) ?_
    refine va_aldq (f := g) (n := 10) hx hb hK hP k2 t2 e2 u2 (vp_in_iff.mpr (by decide)) dX8_areTanksToBlend_54 ?_
    obtain ⟨v_106, kv_107, gr_108, kg_109, ci_110, ti_111, gv_112, ev_113, eg_114, ut_115⟩ := hT 3 (by omega)
    refine tp_v (y := .ref v_106) (by rw [show (3 : Int32).toNatClampNeg = 3 from by decide, gv_112]; rfl) ?_
    refine va_get (D := D) (ci := 7) (v := .int 0) (C := RX7) (T := TX7) (N := 5) hx hb hts hin7 hown hK hP kv_107 ev_113 rfl 1 (by decide) (hts (.fieldLink RX8 144 "HoneyHouse$Vessel" "total" "I") (List.mem_of_getElem? (i := 2) rfl)) (fun _ h9 => h9) rfl dX8_areTanksToBlend_55 ?_
    refine lv_if_ne (tgt := 63) hx hb dX8_areTanksToBlend_58 (by decide) (fun c_116 => absurd (by decide) c_116) (fun c_116 => ?_)
    refine lv_iconst (v := 0) hx hb dX8_areTanksToBlend_61 (by decide) ?_
    exact W.zret (v := 0) hx hb hr rfl (fun t ht hW => ⟨0, rfl, (by first | rfl | (simp_all; done) | simp [c_1, k_3, a_6, b_7, c_9, c_10, a_13, c_36, c_37, a_40, c_63, c_64, a_67, c_90, c_91, c_95, c_116]), ht⟩) (fun _ h9 => by cases h9) dX8_areTanksToBlend_62
  refine lv_if_eq (tgt := 63) hx hb dX8_areTanksToBlend_37 (by decide) (fun c_117 => ?_) (fun c_117 => absurd (by decide) c_117)
  refine lv_iinc (v := 4) (lv' := [(2, .int 4), (0, .ref h0), (1, .int a1)]) hx hb dX8_areTanksToBlend_63 hl (k := 0) rfl (by decide) (by decide) rfl (fun ls hl => ?_)
  refine lv_goto (tgt := 23) hx hb dX8_areTanksToBlend_66 (by decide) ?_
  refine lv_iload_n hx hb dX8_areTanksToBlend_23 rfl (lv_at hl 0 rfl) ?_
  refine lv_aload_n hx hb dX8_areTanksToBlend_24 rfl (lv_at hl 1 rfl) ?_
  refine va_get (D := D) (ci := 8) (v := .ref ta) (C := RX8) (T := TX8) (N := 15) hx hb hts hin8 hown hK hP k0 e0 rfl 1 (by decide) (hts (.fieldLink RX8 17 "HoneyHouse" "tanks" "[LHoneyHouse$Vessel;") (List.mem_of_getElem? (i := 1) rfl)) (fun _ h9 => h9) rfl dX8_areTanksToBlend_25 ?_
  refine va_alen (v := 10) hx hb hK hP k2 t2 e2 u2 rfl dX8_areTanksToBlend_28 ?_
  refine lv_icmp_ge (tgt := 69) hx hb dX8_areTanksToBlend_29 (by decide) (fun c_118 => absurd c_118 (by decide)) (fun c_118 => ?_)
  refine lv_iload_n hx hb dX8_areTanksToBlend_32 rfl (lv_at hl 2 rfl) ?_
  refine lv_iload_n hx hb dX8_areTanksToBlend_33 rfl (lv_at hl 0 rfl) ?_
  refine vp_callSi (W.runS (As := [.int a1, .int 4]) (rest := []) ⟨hx, hb, hml, hown, hts⟩ (s_X8_hasBit l a1 4) (va_cwS 2 hts gX8_areTanksToBlend_X8_hasBit rfl rfl rfl (by decide +kernel) ⟨Nat.le_of_ble_eq_true rfl, Nat.le_of_ble_eq_true rfl⟩) ⟨fun a U g mk q => q, fun U hU hW => ⟨rfl, trivial⟩⟩ rfl rfl hl.1 rfl (lv_room (Nat.le_of_ble_eq_true rfl)) dX8_areTanksToBlend_34 ⟨Nat.le_of_ble_eq_true rfl, Nat.le_of_ble_eq_true rfl⟩) (fun r_119 k_120 => ?_)
  rcases (or_comm.mp k_120) with rfl | ⟨rfl, a_121⟩
  · refine lv_if_eq (tgt := 63) hx hb dX8_areTanksToBlend_37 (by decide) (fun c_122 => absurd c_122 (by decide)) (fun c_122 => ?_)
    refine lv_aload_n hx hb dX8_areTanksToBlend_40 rfl (lv_at hl 1 rfl) ?_
    refine va_get (D := D) (ci := 8) (v := .ref ta) (C := RX8) (T := TX8) (N := 15) hx hb hts hin8 hown hK hP k0 e0 rfl 1 (by decide) (hts (.fieldLink RX8 17 "HoneyHouse" "tanks" "[LHoneyHouse$Vessel;") (List.mem_of_getElem? (i := 1) rfl)) (fun _ h9 => h9) rfl dX8_areTanksToBlend_41 ?_
    refine lv_iload_n hx hb dX8_areTanksToBlend_44 rfl (lv_at hl 0 rfl) ?_
    refine va_aldq (f := g) (n := 10) hx hb hK hP k2 t2 e2 u2 (vp_in_iff.mpr (by decide)) dX8_areTanksToBlend_45 ?_
    obtain ⟨v_123, kv_124, gr_125, kg_126, ci_127, ti_128, gv_129, ev_130, eg_131, ut_132⟩ := hT 4 (by omega)
    refine tp_v (y := .ref v_123) (by rw [show (4 : Int32).toNatClampNeg = 4 from by decide, gv_129]; rfl) ?_
    refine lv_ifnull hx hb dX8_areTanksToBlend_46 ?_
    refine lv_aload_n hx hb dX8_areTanksToBlend_49 rfl (lv_at hl 1 rfl) ?_
    refine va_get (D := D) (ci := 8) (v := .ref ta) (C := RX8) (T := TX8) (N := 15) hx hb hts hin8 hown hK hP k0 e0 rfl 1 (by decide) (hts (.fieldLink RX8 17 "HoneyHouse" "tanks" "[LHoneyHouse$Vessel;") (List.mem_of_getElem? (i := 1) rfl)) (fun _ h9 => h9) rfl dX8_areTanksToBlend_50 ?_
    refine lv_iload_n hx hb dX8_areTanksToBlend_53 rfl (lv_at hl 0 rfl) ?_
    refine va_aldq (f := g) (n := 10) hx hb hK hP k2 t2 e2 u2 (vp_in_iff.mpr (by decide)) dX8_areTanksToBlend_54 ?_
    obtain ⟨v_133, kv_134, gr_135, kg_136, ci_137, ti_138, gv_139, ev_140, eg_141, ut_142⟩ := hT 4 (by omega)
    refine tp_v (y := .ref v_133) (by rw [show (4 : Int32).toNatClampNeg = 4 from by decide, gv_139]; rfl) ?_
    refine va_get (D := D) (ci := 7) (v := .int 0) (C := RX7) (T := TX7) (N := 5) hx hb hts hin7 hown hK hP kv_134 ev_140 rfl 1 (by decide) (hts (.fieldLink RX8 144 "HoneyHouse$Vessel" "total" "I") (List.mem_of_getElem? (i := 2) rfl)) (fun _ h9 => h9) rfl dX8_areTanksToBlend_55 ?_
    refine lv_if_ne (tgt := 63) hx hb dX8_areTanksToBlend_58 (by decide) (fun c_143 => absurd (by decide) c_143) (fun c_143 => ?_)
    refine lv_iconst (v := 0) hx hb dX8_areTanksToBlend_61 (by decide) ?_
    exact W.zret (v := 0) hx hb hr rfl (fun t ht hW => ⟨0, rfl, (by first | rfl | (simp_all; done) | simp [c_1, k_3, a_6, b_7, c_9, c_10, a_13, c_36, c_37, a_40, c_63, c_64, a_67, c_90, c_91, a_94, c_117, c_118, c_122, c_143]), ht⟩) (fun _ h9 => by cases h9) dX8_areTanksToBlend_62
  refine lv_if_eq (tgt := 63) hx hb dX8_areTanksToBlend_37 (by decide) (fun c_144 => ?_) (fun c_144 => absurd (by decide) c_144)
  refine lv_iinc (v := 5) (lv' := [(2, .int 5), (0, .ref h0), (1, .int a1)]) hx hb dX8_areTanksToBlend_63 hl (k := 0) rfl (by decide) (by decide) rfl (fun ls hl => ?_)
  refine lv_goto (tgt := 23) hx hb dX8_areTanksToBlend_66 (by decide) ?_
  refine lv_iload_n hx hb dX8_areTanksToBlend_23 rfl (lv_at hl 0 rfl) ?_
  refine lv_aload_n hx hb dX8_areTanksToBlend_24 rfl (lv_at hl 1 rfl) ?_
  refine va_get (D := D) (ci := 8) (v := .ref ta) (C := RX8) (T := TX8) (N := 15) hx hb hts hin8 hown hK hP k0 e0 rfl 1 (by decide) (hts (.fieldLink RX8 17 "HoneyHouse" "tanks" "[LHoneyHouse$Vessel;") (List.mem_of_getElem? (i := 1) rfl)) (fun _ h9 => h9) rfl dX8_areTanksToBlend_25 ?_
  refine va_alen (v := 10) hx hb hK hP k2 t2 e2 u2 rfl dX8_areTanksToBlend_28 ?_
  refine lv_icmp_ge (tgt := 69) hx hb dX8_areTanksToBlend_29 (by decide) (fun c_145 => absurd c_145 (by decide)) (fun c_145 => ?_)
  refine lv_iload_n hx hb dX8_areTanksToBlend_32 rfl (lv_at hl 2 rfl) ?_
  refine lv_iload_n hx hb dX8_areTanksToBlend_33 rfl (lv_at hl 0 rfl) ?_
  refine vp_callSi (W.runS (As := [.int a1, .int 5]) (rest := []) ⟨hx, hb, hml, hown, hts⟩ (s_X8_hasBit l a1 5) (va_cwS 2 hts gX8_areTanksToBlend_X8_hasBit rfl rfl rfl (by decide +kernel) ⟨Nat.le_of_ble_eq_true rfl, Nat.le_of_ble_eq_true rfl⟩) ⟨fun a U g mk q => q, fun U hU hW => ⟨rfl, trivial⟩⟩ rfl rfl hl.1 rfl (lv_room (Nat.le_of_ble_eq_true rfl)) dX8_areTanksToBlend_34 ⟨Nat.le_of_ble_eq_true rfl, Nat.le_of_ble_eq_true rfl⟩) (fun r_146 k_147 => ?_)
  rcases (or_comm.mp k_147) with rfl | ⟨rfl, a_148⟩
  · refine lv_if_eq (tgt := 63) hx hb dX8_areTanksToBlend_37 (by decide) (fun c_149 => absurd c_149 (by decide)) (fun c_149 => ?_)
    refine lv_aload_n hx hb dX8_areTanksToBlend_40 rfl (lv_at hl 1 rfl) ?_
    refine va_get (D := D) (ci := 8) (v := .ref ta) (C := RX8) (T := TX8) (N := 15) hx hb hts hin8 hown hK hP k0 e0 rfl 1 (by decide) (hts (.fieldLink RX8 17 "HoneyHouse" "tanks" "[LHoneyHouse$Vessel;") (List.mem_of_getElem? (i := 1) rfl)) (fun _ h9 => h9) rfl dX8_areTanksToBlend_41 ?_
    refine lv_iload_n hx hb dX8_areTanksToBlend_44 rfl (lv_at hl 0 rfl) ?_
    refine va_aldq (f := g) (n := 10) hx hb hK hP k2 t2 e2 u2 (vp_in_iff.mpr (by decide)) dX8_areTanksToBlend_45 ?_
    obtain ⟨v_150, kv_151, gr_152, kg_153, ci_154, ti_155, gv_156, ev_157, eg_158, ut_159⟩ := hT 5 (by omega)
    refine tp_v (y := .ref v_150) (by rw [show (5 : Int32).toNatClampNeg = 5 from by decide, gv_156]; rfl) ?_
    refine lv_ifnull hx hb dX8_areTanksToBlend_46 ?_
    refine lv_aload_n hx hb dX8_areTanksToBlend_49 rfl (lv_at hl 1 rfl) ?_
    refine va_get (D := D) (ci := 8) (v := .ref ta) (C := RX8) (T := TX8) (N := 15) hx hb hts hin8 hown hK hP k0 e0 rfl 1 (by decide) (hts (.fieldLink RX8 17 "HoneyHouse" "tanks" "[LHoneyHouse$Vessel;") (List.mem_of_getElem? (i := 1) rfl)) (fun _ h9 => h9) rfl dX8_areTanksToBlend_50 ?_
    refine lv_iload_n hx hb dX8_areTanksToBlend_53 rfl (lv_at hl 0 rfl) ?_
    refine va_aldq (f := g) (n := 10) hx hb hK hP k2 t2 e2 u2 (vp_in_iff.mpr (by decide)) dX8_areTanksToBlend_54 ?_
    obtain ⟨v_160, kv_161, gr_162, kg_163, ci_164, ti_165, gv_166, ev_167, eg_168, ut_169⟩ := hT 5 (by omega)
    refine tp_v (y := .ref v_160) (by rw [show (5 : Int32).toNatClampNeg = 5 from by decide, gv_166]; rfl) ?_
    refine va_get (D := D) (ci := 7) (v := .int 0) (C := RX7) (T := TX7) (N := 5) hx hb hts hin7 hown hK hP kv_161 ev_167 rfl 1 (by decide) (hts (.fieldLink RX8 144 "HoneyHouse$Vessel" "total" "I") (List.mem_of_getElem? (i := 2) rfl)) (fun _ h9 => h9) rfl dX8_areTanksToBlend_55 ?_
    refine lv_if_ne (tgt := 63) hx hb dX8_areTanksToBlend_58 (by decide) (fun c_170 => absurd (by decide) c_170) (fun c_170 => ?_)
    refine lv_iconst (v := 0) hx hb dX8_areTanksToBlend_61 (by decide) ?_
    exact W.zret (v := 0) hx hb hr rfl (fun t ht hW => ⟨0, rfl, (by first | rfl | (simp_all; done) | simp [c_1, k_3, a_6, b_7, c_9, c_10, a_13, c_36, c_37, a_40, c_63, c_64, a_67, c_90, c_91, a_94, c_117, c_118, a_121, c_144, c_145, c_149, c_170]), ht⟩) (fun _ h9 => by cases h9) dX8_areTanksToBlend_62
  refine lv_if_eq (tgt := 63) hx hb dX8_areTanksToBlend_37 (by decide) (fun c_171 => ?_) (fun c_171 => absurd (by decide) c_171)
  refine lv_iinc (v := 6) (lv' := [(2, .int 6), (0, .ref h0), (1, .int a1)]) hx hb dX8_areTanksToBlend_63 hl (k := 0) rfl (by decide) (by decide) rfl (fun ls hl => ?_)
  refine lv_goto (tgt := 23) hx hb dX8_areTanksToBlend_66 (by decide) ?_
  refine lv_iload_n hx hb dX8_areTanksToBlend_23 rfl (lv_at hl 0 rfl) ?_
  refine lv_aload_n hx hb dX8_areTanksToBlend_24 rfl (lv_at hl 1 rfl) ?_
  refine va_get (D := D) (ci := 8) (v := .ref ta) (C := RX8) (T := TX8) (N := 15) hx hb hts hin8 hown hK hP k0 e0 rfl 1 (by decide) (hts (.fieldLink RX8 17 "HoneyHouse" "tanks" "[LHoneyHouse$Vessel;") (List.mem_of_getElem? (i := 1) rfl)) (fun _ h9 => h9) rfl dX8_areTanksToBlend_25 ?_
  refine va_alen (v := 10) hx hb hK hP k2 t2 e2 u2 rfl dX8_areTanksToBlend_28 ?_
  refine lv_icmp_ge (tgt := 69) hx hb dX8_areTanksToBlend_29 (by decide) (fun c_172 => absurd c_172 (by decide)) (fun c_172 => ?_)
  refine lv_iload_n hx hb dX8_areTanksToBlend_32 rfl (lv_at hl 2 rfl) ?_
  refine lv_iload_n hx hb dX8_areTanksToBlend_33 rfl (lv_at hl 0 rfl) ?_
  refine vp_callSi (W.runS (As := [.int a1, .int 6]) (rest := []) ⟨hx, hb, hml, hown, hts⟩ (s_X8_hasBit l a1 6) (va_cwS 2 hts gX8_areTanksToBlend_X8_hasBit rfl rfl rfl (by decide +kernel) ⟨Nat.le_of_ble_eq_true rfl, Nat.le_of_ble_eq_true rfl⟩) ⟨fun a U g mk q => q, fun U hU hW => ⟨rfl, trivial⟩⟩ rfl rfl hl.1 rfl (lv_room (Nat.le_of_ble_eq_true rfl)) dX8_areTanksToBlend_34 ⟨Nat.le_of_ble_eq_true rfl, Nat.le_of_ble_eq_true rfl⟩) (fun r_173 k_174 => ?_)
  rcases (or_comm.mp k_174) with rfl | ⟨rfl, a_175⟩
  · refine lv_if_eq (tgt := 63) hx hb dX8_areTanksToBlend_37 (by decide) (fun c_176 => absurd c_176 (by decide)) (fun c_176 => ?_)
    refine lv_aload_n hx hb dX8_areTanksToBlend_40 rfl (lv_at hl 1 rfl) ?_
    refine va_get (D := D) (ci := 8) (v := .ref ta) (C := RX8) (T := TX8) (N := 15) hx hb hts hin8 hown hK hP k0 e0 rfl 1 (by decide) (hts (.fieldLink RX8 17 "HoneyHouse" "tanks" "[LHoneyHouse$Vessel;") (List.mem_of_getElem? (i := 1) rfl)) (fun _ h9 => h9) rfl dX8_areTanksToBlend_41 ?_
    refine lv_iload_n hx hb dX8_areTanksToBlend_44 rfl (lv_at hl 0 rfl) ?_
    refine va_aldq (f := g) (n := 10) hx hb hK hP k2 t2 e2 u2 (vp_in_iff.mpr (by decide)) dX8_areTanksToBlend_45 ?_
    obtain ⟨v_177, kv_178, gr_179, kg_180, ci_181, ti_182, gv_183, ev_184, eg_185, ut_186⟩ := hT 6 (by omega)
    refine tp_v (y := .ref v_177) (by rw [show (6 : Int32).toNatClampNeg = 6 from by decide, gv_183]; rfl) ?_
    refine lv_ifnull hx hb dX8_areTanksToBlend_46 ?_
    refine lv_aload_n hx hb dX8_areTanksToBlend_49 rfl (lv_at hl 1 rfl) ?_
    refine va_get (D := D) (ci := 8) (v := .ref ta) (C := RX8) (T := TX8) (N := 15) hx hb hts hin8 hown hK hP k0 e0 rfl 1 (by decide) (hts (.fieldLink RX8 17 "HoneyHouse" "tanks" "[LHoneyHouse$Vessel;") (List.mem_of_getElem? (i := 1) rfl)) (fun _ h9 => h9) rfl dX8_areTanksToBlend_50 ?_
    refine lv_iload_n hx hb dX8_areTanksToBlend_53 rfl (lv_at hl 0 rfl) ?_
    refine va_aldq (f := g) (n := 10) hx hb hK hP k2 t2 e2 u2 (vp_in_iff.mpr (by decide)) dX8_areTanksToBlend_54 ?_
    obtain ⟨v_187, kv_188, gr_189, kg_190, ci_191, ti_192, gv_193, ev_194, eg_195, ut_196⟩ := hT 6 (by omega)
    refine tp_v (y := .ref v_187) (by rw [show (6 : Int32).toNatClampNeg = 6 from by decide, gv_193]; rfl) ?_
    refine va_get (D := D) (ci := 7) (v := .int 0) (C := RX7) (T := TX7) (N := 5) hx hb hts hin7 hown hK hP kv_188 ev_194 rfl 1 (by decide) (hts (.fieldLink RX8 144 "HoneyHouse$Vessel" "total" "I") (List.mem_of_getElem? (i := 2) rfl)) (fun _ h9 => h9) rfl dX8_areTanksToBlend_55 ?_
    refine lv_if_ne (tgt := 63) hx hb dX8_areTanksToBlend_58 (by decide) (fun c_197 => absurd (by decide) c_197) (fun c_197 => ?_)
    refine lv_iconst (v := 0) hx hb dX8_areTanksToBlend_61 (by decide) ?_
    exact W.zret (v := 0) hx hb hr rfl (fun t ht hW => ⟨0, rfl, (by first | rfl | (simp_all; done) | simp [c_1, k_3, a_6, b_7, c_9, c_10, a_13, c_36, c_37, a_40, c_63, c_64, a_67, c_90, c_91, a_94, c_117, c_118, a_121, c_144, c_145, a_148, c_171, c_172, c_176, c_197]), ht⟩) (fun _ h9 => by cases h9) dX8_areTanksToBlend_62
  refine lv_if_eq (tgt := 63) hx hb dX8_areTanksToBlend_37 (by decide) (fun c_198 => ?_) (fun c_198 => absurd (by decide) c_198)
  refine lv_iinc (v := 7) (lv' := [(2, .int 7), (0, .ref h0), (1, .int a1)]) hx hb dX8_areTanksToBlend_63 hl (k := 0) rfl (by decide) (by decide) rfl (fun ls hl => ?_)
  refine lv_goto (tgt := 23) hx hb dX8_areTanksToBlend_66 (by decide) ?_
  refine lv_iload_n hx hb dX8_areTanksToBlend_23 rfl (lv_at hl 0 rfl) ?_
  refine lv_aload_n hx hb dX8_areTanksToBlend_24 rfl (lv_at hl 1 rfl) ?_
  refine va_get (D := D) (ci := 8) (v := .ref ta) (C := RX8) (T := TX8) (N := 15) hx hb hts hin8 hown hK hP k0 e0 rfl 1 (by decide) (hts (.fieldLink RX8 17 "HoneyHouse" "tanks" "[LHoneyHouse$Vessel;") (List.mem_of_getElem? (i := 1) rfl)) (fun _ h9 => h9) rfl dX8_areTanksToBlend_25 ?_
  refine va_alen (v := 10) hx hb hK hP k2 t2 e2 u2 rfl dX8_areTanksToBlend_28 ?_
  refine lv_icmp_ge (tgt := 69) hx hb dX8_areTanksToBlend_29 (by decide) (fun c_199 => absurd c_199 (by decide)) (fun c_199 => ?_)
  refine lv_iload_n hx hb dX8_areTanksToBlend_32 rfl (lv_at hl 2 rfl) ?_
  refine lv_iload_n hx hb dX8_areTanksToBlend_33 rfl (lv_at hl 0 rfl) ?_
  refine vp_callSi (W.runS (As := [.int a1, .int 7]) (rest := []) ⟨hx, hb, hml, hown, hts⟩ (s_X8_hasBit l a1 7) (va_cwS 2 hts gX8_areTanksToBlend_X8_hasBit rfl rfl rfl (by decide +kernel) ⟨Nat.le_of_ble_eq_true rfl, Nat.le_of_ble_eq_true rfl⟩) ⟨fun a U g mk q => q, fun U hU hW => ⟨rfl, trivial⟩⟩ rfl rfl hl.1 rfl (lv_room (Nat.le_of_ble_eq_true rfl)) dX8_areTanksToBlend_34 ⟨Nat.le_of_ble_eq_true rfl, Nat.le_of_ble_eq_true rfl⟩) (fun r_200 k_201 => ?_)
  rcases (or_comm.mp k_201) with rfl | ⟨rfl, a_202⟩
  · refine lv_if_eq (tgt := 63) hx hb dX8_areTanksToBlend_37 (by decide) (fun c_203 => absurd c_203 (by decide)) (fun c_203 => ?_)
    refine lv_aload_n hx hb dX8_areTanksToBlend_40 rfl (lv_at hl 1 rfl) ?_
    refine va_get (D := D) (ci := 8) (v := .ref ta) (C := RX8) (T := TX8) (N := 15) hx hb hts hin8 hown hK hP k0 e0 rfl 1 (by decide) (hts (.fieldLink RX8 17 "HoneyHouse" "tanks" "[LHoneyHouse$Vessel;") (List.mem_of_getElem? (i := 1) rfl)) (fun _ h9 => h9) rfl dX8_areTanksToBlend_41 ?_
    refine lv_iload_n hx hb dX8_areTanksToBlend_44 rfl (lv_at hl 0 rfl) ?_
    refine va_aldq (f := g) (n := 10) hx hb hK hP k2 t2 e2 u2 (vp_in_iff.mpr (by decide)) dX8_areTanksToBlend_45 ?_
    obtain ⟨v_204, kv_205, gr_206, kg_207, ci_208, ti_209, gv_210, ev_211, eg_212, ut_213⟩ := hT 7 (by omega)
    refine tp_v (y := .ref v_204) (by rw [show (7 : Int32).toNatClampNeg = 7 from by decide, gv_210]; rfl) ?_
    refine lv_ifnull hx hb dX8_areTanksToBlend_46 ?_
    refine lv_aload_n hx hb dX8_areTanksToBlend_49 rfl (lv_at hl 1 rfl) ?_
    refine va_get (D := D) (ci := 8) (v := .ref ta) (C := RX8) (T := TX8) (N := 15) hx hb hts hin8 hown hK hP k0 e0 rfl 1 (by decide) (hts (.fieldLink RX8 17 "HoneyHouse" "tanks" "[LHoneyHouse$Vessel;") (List.mem_of_getElem? (i := 1) rfl)) (fun _ h9 => h9) rfl dX8_areTanksToBlend_50 ?_
    refine lv_iload_n hx hb dX8_areTanksToBlend_53 rfl (lv_at hl 0 rfl) ?_
    refine va_aldq (f := g) (n := 10) hx hb hK hP k2 t2 e2 u2 (vp_in_iff.mpr (by decide)) dX8_areTanksToBlend_54 ?_
    obtain ⟨v_214, kv_215, gr_216, kg_217, ci_218, ti_219, gv_220, ev_221, eg_222, ut_223⟩ := hT 7 (by omega)
    refine tp_v (y := .ref v_214) (by rw [show (7 : Int32).toNatClampNeg = 7 from by decide, gv_220]; rfl) ?_
    refine va_get (D := D) (ci := 7) (v := .int 0) (C := RX7) (T := TX7) (N := 5) hx hb hts hin7 hown hK hP kv_215 ev_221 rfl 1 (by decide) (hts (.fieldLink RX8 144 "HoneyHouse$Vessel" "total" "I") (List.mem_of_getElem? (i := 2) rfl)) (fun _ h9 => h9) rfl dX8_areTanksToBlend_55 ?_
    refine lv_if_ne (tgt := 63) hx hb dX8_areTanksToBlend_58 (by decide) (fun c_224 => absurd (by decide) c_224) (fun c_224 => ?_)
    refine lv_iconst (v := 0) hx hb dX8_areTanksToBlend_61 (by decide) ?_
    exact W.zret (v := 0) hx hb hr rfl (fun t ht hW => ⟨0, rfl, (by first | rfl | (simp_all; done) | simp [c_1, k_3, a_6, b_7, c_9, c_10, a_13, c_36, c_37, a_40, c_63, c_64, a_67, c_90, c_91, a_94, c_117, c_118, a_121, c_144, c_145, a_148, c_171, c_172, a_175, c_198, c_199, c_203, c_224]), ht⟩) (fun _ h9 => by cases h9) dX8_areTanksToBlend_62
  refine lv_if_eq (tgt := 63) hx hb dX8_areTanksToBlend_37 (by decide) (fun c_225 => ?_) (fun c_225 => absurd (by decide) c_225)
  refine lv_iinc (v := 8) (lv' := [(2, .int 8), (0, .ref h0), (1, .int a1)]) hx hb dX8_areTanksToBlend_63 hl (k := 0) rfl (by decide) (by decide) rfl (fun ls hl => ?_)
  refine lv_goto (tgt := 23) hx hb dX8_areTanksToBlend_66 (by decide) ?_
  refine lv_iload_n hx hb dX8_areTanksToBlend_23 rfl (lv_at hl 0 rfl) ?_
  refine lv_aload_n hx hb dX8_areTanksToBlend_24 rfl (lv_at hl 1 rfl) ?_
  refine va_get (D := D) (ci := 8) (v := .ref ta) (C := RX8) (T := TX8) (N := 15) hx hb hts hin8 hown hK hP k0 e0 rfl 1 (by decide) (hts (.fieldLink RX8 17 "HoneyHouse" "tanks" "[LHoneyHouse$Vessel;") (List.mem_of_getElem? (i := 1) rfl)) (fun _ h9 => h9) rfl dX8_areTanksToBlend_25 ?_
  refine va_alen (v := 10) hx hb hK hP k2 t2 e2 u2 rfl dX8_areTanksToBlend_28 ?_
  refine lv_icmp_ge (tgt := 69) hx hb dX8_areTanksToBlend_29 (by decide) (fun c_226 => absurd c_226 (by decide)) (fun c_226 => ?_)
  refine lv_iload_n hx hb dX8_areTanksToBlend_32 rfl (lv_at hl 2 rfl) ?_
  refine lv_iload_n hx hb dX8_areTanksToBlend_33 rfl (lv_at hl 0 rfl) ?_
  refine vp_callSi (W.runS (As := [.int a1, .int 8]) (rest := []) ⟨hx, hb, hml, hown, hts⟩ (s_X8_hasBit l a1 8) (va_cwS 2 hts gX8_areTanksToBlend_X8_hasBit rfl rfl rfl (by decide +kernel) ⟨Nat.le_of_ble_eq_true rfl, Nat.le_of_ble_eq_true rfl⟩) ⟨fun a U g mk q => q, fun U hU hW => ⟨rfl, trivial⟩⟩ rfl rfl hl.1 rfl (lv_room (Nat.le_of_ble_eq_true rfl)) dX8_areTanksToBlend_34 ⟨Nat.le_of_ble_eq_true rfl, Nat.le_of_ble_eq_true rfl⟩) (fun r_227 k_228 => ?_)
  rcases (or_comm.mp k_228) with rfl | ⟨rfl, a_229⟩
  · refine lv_if_eq (tgt := 63) hx hb dX8_areTanksToBlend_37 (by decide) (fun c_230 => absurd c_230 (by decide)) (fun c_230 => ?_)
    refine lv_aload_n hx hb dX8_areTanksToBlend_40 rfl (lv_at hl 1 rfl) ?_
    refine va_get (D := D) (ci := 8) (v := .ref ta) (C := RX8) (T := TX8) (N := 15) hx hb hts hin8 hown hK hP k0 e0 rfl 1 (by decide) (hts (.fieldLink RX8 17 "HoneyHouse" "tanks" "[LHoneyHouse$Vessel;") (List.mem_of_getElem? (i := 1) rfl)) (fun _ h9 => h9) rfl dX8_areTanksToBlend_41 ?_
    refine lv_iload_n hx hb dX8_areTanksToBlend_44 rfl (lv_at hl 0 rfl) ?_
    refine va_aldq (f := g) (n := 10) hx hb hK hP k2 t2 e2 u2 (vp_in_iff.mpr (by decide)) dX8_areTanksToBlend_45 ?_
    obtain ⟨v_231, kv_232, gr_233, kg_234, ci_235, ti_236, gv_237, ev_238, eg_239, ut_240⟩ := hT 8 (by omega)
    refine tp_v (y := .ref v_231) (by rw [show (8 : Int32).toNatClampNeg = 8 from by decide, gv_237]; rfl) ?_
    refine lv_ifnull hx hb dX8_areTanksToBlend_46 ?_
    refine lv_aload_n hx hb dX8_areTanksToBlend_49 rfl (lv_at hl 1 rfl) ?_
    refine va_get (D := D) (ci := 8) (v := .ref ta) (C := RX8) (T := TX8) (N := 15) hx hb hts hin8 hown hK hP k0 e0 rfl 1 (by decide) (hts (.fieldLink RX8 17 "HoneyHouse" "tanks" "[LHoneyHouse$Vessel;") (List.mem_of_getElem? (i := 1) rfl)) (fun _ h9 => h9) rfl dX8_areTanksToBlend_50 ?_
    refine lv_iload_n hx hb dX8_areTanksToBlend_53 rfl (lv_at hl 0 rfl) ?_
    refine va_aldq (f := g) (n := 10) hx hb hK hP k2 t2 e2 u2 (vp_in_iff.mpr (by decide)) dX8_areTanksToBlend_54 ?_
    obtain ⟨v_241, kv_242, gr_243, kg_244, ci_245, ti_246, gv_247, ev_248, eg_249, ut_250⟩ := hT 8 (by omega)
    refine tp_v (y := .ref v_241) (by rw [show (8 : Int32).toNatClampNeg = 8 from by decide, gv_247]; rfl) ?_
    refine va_get (D := D) (ci := 7) (v := .int 0) (C := RX7) (T := TX7) (N := 5) hx hb hts hin7 hown hK hP kv_242 ev_248 rfl 1 (by decide) (hts (.fieldLink RX8 144 "HoneyHouse$Vessel" "total" "I") (List.mem_of_getElem? (i := 2) rfl)) (fun _ h9 => h9) rfl dX8_areTanksToBlend_55 ?_
    refine lv_if_ne (tgt := 63) hx hb dX8_areTanksToBlend_58 (by decide) (fun c_251 => absurd (by decide) c_251) (fun c_251 => ?_)
    refine lv_iconst (v := 0) hx hb dX8_areTanksToBlend_61 (by decide) ?_
    exact W.zret (v := 0) hx hb hr rfl (fun t ht hW => ⟨0, rfl, (by first | rfl | (simp_all; done) | simp [c_1, k_3, a_6, b_7, c_9, c_10, a_13, c_36, c_37, a_40, c_63, c_64, a_67, c_90, c_91, a_94, c_117, c_118, a_121, c_144, c_145, a_148, c_171, c_172, a_175, c_198, c_199, a_202, c_225, c_226, c_230, c_251]), ht⟩) (fun _ h9 => by cases h9) dX8_areTanksToBlend_62
  refine lv_if_eq (tgt := 63) hx hb dX8_areTanksToBlend_37 (by decide) (fun c_252 => ?_) (fun c_252 => absurd (by decide) c_252)
  refine lv_iinc (v := 9) (lv' := [(2, .int 9), (0, .ref h0), (1, .int a1)]) hx hb dX8_areTanksToBlend_63 hl (k := 0) rfl (by decide) (by decide) rfl (fun ls hl => ?_)
  refine lv_goto (tgt := 23) hx hb dX8_areTanksToBlend_66 (by decide) ?_
  refine lv_iload_n hx hb dX8_areTanksToBlend_23 rfl (lv_at hl 0 rfl) ?_
  refine lv_aload_n hx hb dX8_areTanksToBlend_24 rfl (lv_at hl 1 rfl) ?_
  refine va_get (D := D) (ci := 8) (v := .ref ta) (C := RX8) (T := TX8) (N := 15) hx hb hts hin8 hown hK hP k0 e0 rfl 1 (by decide) (hts (.fieldLink RX8 17 "HoneyHouse" "tanks" "[LHoneyHouse$Vessel;") (List.mem_of_getElem? (i := 1) rfl)) (fun _ h9 => h9) rfl dX8_areTanksToBlend_25 ?_
  refine va_alen (v := 10) hx hb hK hP k2 t2 e2 u2 rfl dX8_areTanksToBlend_28 ?_
  refine lv_icmp_ge (tgt := 69) hx hb dX8_areTanksToBlend_29 (by decide) (fun c_253 => absurd c_253 (by decide)) (fun c_253 => ?_)
  refine lv_iload_n hx hb dX8_areTanksToBlend_32 rfl (lv_at hl 2 rfl) ?_
  refine lv_iload_n hx hb dX8_areTanksToBlend_33 rfl (lv_at hl 0 rfl) ?_
  refine vp_callSi (W.runS (As := [.int a1, .int 9]) (rest := []) ⟨hx, hb, hml, hown, hts⟩ (s_X8_hasBit l a1 9) (va_cwS 2 hts gX8_areTanksToBlend_X8_hasBit rfl rfl rfl (by decide +kernel) ⟨Nat.le_of_ble_eq_true rfl, Nat.le_of_ble_eq_true rfl⟩) ⟨fun a U g mk q => q, fun U hU hW => ⟨rfl, trivial⟩⟩ rfl rfl hl.1 rfl (lv_room (Nat.le_of_ble_eq_true rfl)) dX8_areTanksToBlend_34 ⟨Nat.le_of_ble_eq_true rfl, Nat.le_of_ble_eq_true rfl⟩) (fun r_254 k_255 => ?_)
  rcases (or_comm.mp k_255) with rfl | ⟨rfl, a_256⟩
  · refine lv_if_eq (tgt := 63) hx hb dX8_areTanksToBlend_37 (by decide) (fun c_257 => absurd c_257 (by decide)) (fun c_257 => ?_)
    refine lv_aload_n hx hb dX8_areTanksToBlend_40 rfl (lv_at hl 1 rfl) ?_
    refine va_get (D := D) (ci := 8) (v := .ref ta) (C := RX8) (T := TX8) (N := 15) hx hb hts hin8 hown hK hP k0 e0 rfl 1 (by decide) (hts (.fieldLink RX8 17 "HoneyHouse" "tanks" "[LHoneyHouse$Vessel;") (List.mem_of_getElem? (i := 1) rfl)) (fun _ h9 => h9) rfl dX8_areTanksToBlend_41 ?_
    refine lv_iload_n hx hb dX8_areTanksToBlend_44 rfl (lv_at hl 0 rfl) ?_
    refine va_aldq (f := g) (n := 10) hx hb hK hP k2 t2 e2 u2 (vp_in_iff.mpr (by decide)) dX8_areTanksToBlend_45 ?_
    obtain ⟨v_258, kv_259, gr_260, kg_261, ci_262, ti_263, gv_264, ev_265, eg_266, ut_267⟩ := hT 9 (by omega)
    refine tp_v (y := .ref v_258) (by rw [show (9 : Int32).toNatClampNeg = 9 from by decide, gv_264]; rfl) ?_
    refine lv_ifnull hx hb dX8_areTanksToBlend_46 ?_
    refine lv_aload_n hx hb dX8_areTanksToBlend_49 rfl (lv_at hl 1 rfl) ?_
    refine va_get (D := D) (ci := 8) (v := .ref ta) (C := RX8) (T := TX8) (N := 15) hx hb hts hin8 hown hK hP k0 e0 rfl 1 (by decide) (hts (.fieldLink RX8 17 "HoneyHouse" "tanks" "[LHoneyHouse$Vessel;") (List.mem_of_getElem? (i := 1) rfl)) (fun _ h9 => h9) rfl dX8_areTanksToBlend_50 ?_
    refine lv_iload_n hx hb dX8_areTanksToBlend_53 rfl (lv_at hl 0 rfl) ?_
    refine va_aldq (f := g) (n := 10) hx hb hK hP k2 t2 e2 u2 (vp_in_iff.mpr (by decide)) dX8_areTanksToBlend_54 ?_
    obtain ⟨v_268, kv_269, gr_270, kg_271, ci_272, ti_273, gv_274, ev_275, eg_276, ut_277⟩ := hT 9 (by omega)
    refine tp_v (y := .ref v_268) (by rw [show (9 : Int32).toNatClampNeg = 9 from by decide, gv_274]; rfl) ?_
    refine va_get (D := D) (ci := 7) (v := .int 0) (C := RX7) (T := TX7) (N := 5) hx hb hts hin7 hown hK hP kv_269 ev_275 rfl 1 (by decide) (hts (.fieldLink RX8 144 "HoneyHouse$Vessel" "total" "I") (List.mem_of_getElem? (i := 2) rfl)) (fun _ h9 => h9) rfl dX8_areTanksToBlend_55 ?_
    refine lv_if_ne (tgt := 63) hx hb dX8_areTanksToBlend_58 (by decide) (fun c_278 => absurd (by decide) c_278) (fun c_278 => ?_)
    refine lv_iconst (v := 0) hx hb dX8_areTanksToBlend_61 (by decide) ?_
    exact W.zret (v := 0) hx hb hr rfl (fun t ht hW => ⟨0, rfl, (by first | rfl | (simp_all; done) | simp [c_1, k_3, a_6, b_7, c_9, c_10, a_13, c_36, c_37, a_40, c_63, c_64, a_67, c_90, c_91, a_94, c_117, c_118, a_121, c_144, c_145, a_148, c_171, c_172, a_175, c_198, c_199, a_202, c_225, c_226, a_229, c_252, c_253, c_257, c_278]), ht⟩) (fun _ h9 => by cases h9) dX8_areTanksToBlend_62
  refine lv_if_eq (tgt := 63) hx hb dX8_areTanksToBlend_37 (by decide) (fun c_279 => ?_) (fun c_279 => absurd (by decide) c_279)
  refine lv_iinc (v := 10) (lv' := [(2, .int 10), (0, .ref h0), (1, .int a1)]) hx hb dX8_areTanksToBlend_63 hl (k := 0) rfl (by decide) (by decide) rfl (fun ls hl => ?_)
  refine lv_goto (tgt := 23) hx hb dX8_areTanksToBlend_66 (by decide) ?_
  refine lv_iload_n hx hb dX8_areTanksToBlend_23 rfl (lv_at hl 0 rfl) ?_
  refine lv_aload_n hx hb dX8_areTanksToBlend_24 rfl (lv_at hl 1 rfl) ?_
  refine va_get (D := D) (ci := 8) (v := .ref ta) (C := RX8) (T := TX8) (N := 15) hx hb hts hin8 hown hK hP k0 e0 rfl 1 (by decide) (hts (.fieldLink RX8 17 "HoneyHouse" "tanks" "[LHoneyHouse$Vessel;") (List.mem_of_getElem? (i := 1) rfl)) (fun _ h9 => h9) rfl dX8_areTanksToBlend_25 ?_
  refine va_alen (v := 10) hx hb hK hP k2 t2 e2 u2 rfl dX8_areTanksToBlend_28 ?_
  refine lv_icmp_ge (tgt := 69) hx hb dX8_areTanksToBlend_29 (by decide) (fun c_280 => ?_) (fun c_280 => absurd (by decide) c_280)
  obtain ⟨n9, hn9, rfl⟩ := shr10 c_1
  rcases Nat.eq_zero_or_pos n9 with z9 | z9
  · subst z9; rw [k_3 rfl] at a_6; exact absurd (by decide) a_6
  · exact absurd ⟨a_13, a_40, a_67, a_94, a_121, a_148, a_175, a_202, a_229, a_256⟩ (bits_n n9 hn9 z9)
set_option maxHeartbeats 4000000 in
set_option maxRecDepth 100000 in
theorem s_X8_blend (l : Launch) (D : va_G) (ws : va_W) (tys : List (ClassId × FieldType)) (h0 : Nat) (X : XF ws tys h0) (a1 a2 a3 a4 a5 : Int32) : Met l yX8_blend wsX8_blend ({ frames := 2, cells := 0, slots := 0, locals := 44 }) (va_Pc [.ref h0, .int a1, .int a2, .int a3, .int a4, .int a5] (fun U => va_P D vwCl ws U.heap ∧ va_K D vwCl tys U)) (vp_Si (fun r => r = (-1))) 0 0 (fun _ => False) := by
  refine Met.ofW (cc := cX8_blend) (maxL := 9) (ret := (some .int)) (by decide) rfl ?_
  intro p e s m args below meth c s₁ B hml hv
  obtain ⟨rfl, hP, hK⟩ := hv
  have hx := B.exec
  have hb := B.bytes
  have hr := B.returns
  have hts := atoms_spec (ws := wsX8_blend) B.pre
  have hown : s.vm.findClass RX8 = some m.cls := findClass_of_methodNamed B.named
  have hlocks := B.notSynchronized
  have hl := lv_entry ([.ref h0, .int a1, .int a2, .int a3, .int a4, .int a5]) (n := 9) (Nat.le_of_ble_eq_true rfl)
  rw [lg_entry_eq]
  generalize (lg_sl ([.ref h0, .int a1, .int a2, .int a3, .int a4, .int a5]) ++ List.replicate (9 - (lg_sl ([.ref h0, .int a1, .int a2, .int a3, .int a4, .int a5])).length) Slot.unset).toArray = ls at hl ⊢
  have hl : lv_has ls 9 [(0, .ref h0), (1, .int a1), (2, .int a2), (3, .int a3), (4, .int a4), (5, .int a5)] := hl
  have X0 := X
  obtain ⟨k0, la, ta, ba, ra, sn, rd, dr, bl, vd, fb, k1, k2, k3, k4, k5, k6, c1, c2, c3, c4, t1, t2, t3, t4, g, bs, rs, e0, e1, u1, e2, u2, e3, u3, e4, u4, e5, fb1, e6, fr3, fr4, hT⟩ := X
  refine lv_iload_n hx hb dX8_blend_0 rfl (lv_at hl 2 rfl) ?_
  refine lv_iconst (v := 1) hx hb dX8_blend_1 (by decide) ?_
  refine lv_bipush (v := 40) hx hb dX8_blend_2 (by decide) ?_
  refine vp_callSi (W.runS (As := [.int a2, .int 1, .int 40]) (rest := []) ⟨hx, hb, hml, hown, hts⟩ (s_X8_isIn l a2 1 40) (va_cwS 3 hts gX8_blend_X8_isIn rfl rfl rfl (by decide +kernel) ⟨Nat.le_of_ble_eq_true rfl, Nat.le_of_ble_eq_true rfl⟩) ⟨fun a U g mk q => q, fun U hU hW => ⟨rfl, trivial⟩⟩ rfl rfl hl.1 rfl (lv_room (Nat.le_of_ble_eq_true rfl)) dX8_blend_4 ⟨Nat.le_of_ble_eq_true rfl, Nat.le_of_ble_eq_true rfl⟩) (fun r_1 k_2 => ?_)
  rcases k_2 with ⟨rfl, -⟩ | ⟨rfl, -, -⟩
  · refine lv_if_eq (tgt := 49) hx hb dX8_blend_7 (by decide) (fun c_3 => ?_) (fun c_3 => absurd (by decide) c_3)
    refine lv_iconst (v := 0) hx hb dX8_blend_49 (by decide) ?_
    refine lv_istore (lv' := [(6, .int 0), (0, .ref h0), (1, .int a1), (2, .int a2), (3, .int a3), (4, .int a4), (5, .int a5)]) hx hb dX8_blend_50 hl (by decide) rfl (fun ls hl => ?_)
    refine lv_iload hx hb dX8_blend_52 (lv_at hl 0 rfl) ?_
    refine lv_if_eq (tgt := 65) hx hb dX8_blend_54 (by decide) (fun c_4 => ?_) (fun c_4 => absurd (by decide) c_4)
    refine lv_iconst (v := (-1)) hx hb dX8_blend_65 (by decide) ?_
    exact W.iret (v := (-1)) hx hb hr (fun t ht hW => ⟨(-1), rfl, (by first | rfl | (simp_all; done) | simp [c_3, c_4]), ht⟩) (fun _ h9 => by cases h9) dX8_blend_66
  refine lv_if_eq (tgt := 49) hx hb dX8_blend_7 (by decide) (fun c_5 => absurd c_5 (by decide)) (fun c_5 => ?_)
  refine lv_iload_n hx hb dX8_blend_10 rfl (lv_at hl 3 rfl) ?_
  refine lv_iconst (v := 0) hx hb dX8_blend_11 (by decide) ?_
  refine lv_sipush (v := 300) hx hb dX8_blend_12 (by decide) ?_
  refine vp_callSi (W.runS (As := [.int a3, .int 0, .int 300]) (rest := []) ⟨hx, hb, hml, hown, hts⟩ (s_X8_isIn l a3 0 300) (va_cwS 3 hts gX8_blend_X8_isIn rfl rfl rfl (by decide +kernel) ⟨Nat.le_of_ble_eq_true rfl, Nat.le_of_ble_eq_true rfl⟩) ⟨fun a U g mk q => q, fun U hU hW => ⟨rfl, trivial⟩⟩ rfl rfl hl.1 rfl (lv_room (Nat.le_of_ble_eq_true rfl)) dX8_blend_15 ⟨Nat.le_of_ble_eq_true rfl, Nat.le_of_ble_eq_true rfl⟩) (fun r_6 k_7 => ?_)
  rcases k_7 with ⟨rfl, -⟩ | ⟨rfl, -, -⟩
  · refine lv_if_eq (tgt := 49) hx hb dX8_blend_18 (by decide) (fun c_8 => ?_) (fun c_8 => absurd (by decide) c_8)
    refine lv_iconst (v := 0) hx hb dX8_blend_49 (by decide) ?_
    refine lv_istore (lv' := [(6, .int 0), (0, .ref h0), (1, .int a1), (2, .int a2), (3, .int a3), (4, .int a4), (5, .int a5)]) hx hb dX8_blend_50 hl (by decide) rfl (fun ls hl => ?_)
    refine lv_iload hx hb dX8_blend_52 (lv_at hl 0 rfl) ?_
    refine lv_if_eq (tgt := 65) hx hb dX8_blend_54 (by decide) (fun c_9 => ?_) (fun c_9 => absurd (by decide) c_9)
    refine lv_iconst (v := (-1)) hx hb dX8_blend_65 (by decide) ?_
    exact W.iret (v := (-1)) hx hb hr (fun t ht hW => ⟨(-1), rfl, (by first | rfl | (simp_all; done) | simp [c_5, c_8, c_9]), ht⟩) (fun _ h9 => by cases h9) dX8_blend_66
  refine lv_if_eq (tgt := 49) hx hb dX8_blend_18 (by decide) (fun c_10 => absurd c_10 (by decide)) (fun c_10 => ?_)
  refine lv_iload hx hb dX8_blend_21 (lv_at hl 4 rfl) ?_
  refine lv_iconst (v := 0) hx hb dX8_blend_23 (by decide) ?_
  refine lv_sipush (v := 140) hx hb dX8_blend_24 (by decide) ?_
  refine vp_callSi (W.runS (As := [.int a4, .int 0, .int 140]) (rest := []) ⟨hx, hb, hml, hown, hts⟩ (s_X8_isIn l a4 0 140) (va_cwS 3 hts gX8_blend_X8_isIn rfl rfl rfl (by decide +kernel) ⟨Nat.le_of_ble_eq_true rfl, Nat.le_of_ble_eq_true rfl⟩) ⟨fun a U g mk q => q, fun U hU hW => ⟨rfl, trivial⟩⟩ rfl rfl hl.1 rfl (lv_room (Nat.le_of_ble_eq_true rfl)) dX8_blend_27 ⟨Nat.le_of_ble_eq_true rfl, Nat.le_of_ble_eq_true rfl⟩) (fun r_11 k_12 => ?_)
  rcases k_12 with ⟨rfl, -⟩ | ⟨rfl, -, -⟩
  · refine lv_if_eq (tgt := 49) hx hb dX8_blend_30 (by decide) (fun c_13 => ?_) (fun c_13 => absurd (by decide) c_13)
    refine lv_iconst (v := 0) hx hb dX8_blend_49 (by decide) ?_
    refine lv_istore (lv' := [(6, .int 0), (0, .ref h0), (1, .int a1), (2, .int a2), (3, .int a3), (4, .int a4), (5, .int a5)]) hx hb dX8_blend_50 hl (by decide) rfl (fun ls hl => ?_)
    refine lv_iload hx hb dX8_blend_52 (lv_at hl 0 rfl) ?_
    refine lv_if_eq (tgt := 65) hx hb dX8_blend_54 (by decide) (fun c_14 => ?_) (fun c_14 => absurd (by decide) c_14)
    refine lv_iconst (v := (-1)) hx hb dX8_blend_65 (by decide) ?_
    exact W.iret (v := (-1)) hx hb hr (fun t ht hW => ⟨(-1), rfl, (by first | rfl | (simp_all; done) | simp [c_5, c_10, c_13, c_14]), ht⟩) (fun _ h9 => by cases h9) dX8_blend_66
  refine lv_if_eq (tgt := 49) hx hb dX8_blend_30 (by decide) (fun c_15 => absurd c_15 (by decide)) (fun c_15 => ?_)
  refine lv_iload hx hb dX8_blend_33 (lv_at hl 5 rfl) ?_
  refine lv_iconst (v := 0) hx hb dX8_blend_35 (by decide) ?_
  refine lv_sipush (v := 140) hx hb dX8_blend_36 (by decide) ?_
  refine vp_callSi (W.runS (As := [.int a5, .int 0, .int 140]) (rest := []) ⟨hx, hb, hml, hown, hts⟩ (s_X8_isIn l a5 0 140) (va_cwS 3 hts gX8_blend_X8_isIn rfl rfl rfl (by decide +kernel) ⟨Nat.le_of_ble_eq_true rfl, Nat.le_of_ble_eq_true rfl⟩) ⟨fun a U g mk q => q, fun U hU hW => ⟨rfl, trivial⟩⟩ rfl rfl hl.1 rfl (lv_room (Nat.le_of_ble_eq_true rfl)) dX8_blend_39 ⟨Nat.le_of_ble_eq_true rfl, Nat.le_of_ble_eq_true rfl⟩) (fun r_16 k_17 => ?_)
  rcases k_17 with ⟨rfl, -⟩ | ⟨rfl, -, -⟩
  · refine lv_if_eq (tgt := 49) hx hb dX8_blend_42 (by decide) (fun c_18 => ?_) (fun c_18 => absurd (by decide) c_18)
    refine lv_iconst (v := 0) hx hb dX8_blend_49 (by decide) ?_
    refine lv_istore (lv' := [(6, .int 0), (0, .ref h0), (1, .int a1), (2, .int a2), (3, .int a3), (4, .int a4), (5, .int a5)]) hx hb dX8_blend_50 hl (by decide) rfl (fun ls hl => ?_)
    refine lv_iload hx hb dX8_blend_52 (lv_at hl 0 rfl) ?_
    refine lv_if_eq (tgt := 65) hx hb dX8_blend_54 (by decide) (fun c_19 => ?_) (fun c_19 => absurd (by decide) c_19)
    refine lv_iconst (v := (-1)) hx hb dX8_blend_65 (by decide) ?_
    exact W.iret (v := (-1)) hx hb hr (fun t ht hW => ⟨(-1), rfl, (by first | rfl | (simp_all; done) | simp [c_5, c_10, c_15, c_18, c_19]), ht⟩) (fun _ h9 => by cases h9) dX8_blend_66
  refine lv_if_eq (tgt := 49) hx hb dX8_blend_42 (by decide) (fun c_20 => absurd c_20 (by decide)) (fun c_20 => ?_)
  refine lv_iconst (v := 1) hx hb dX8_blend_45 (by decide) ?_
  refine lv_goto (tgt := 50) hx hb dX8_blend_46 (by decide) ?_
  refine lv_istore (lv' := [(6, .int 1), (0, .ref h0), (1, .int a1), (2, .int a2), (3, .int a3), (4, .int a4), (5, .int a5)]) hx hb dX8_blend_50 hl (by decide) rfl (fun ls hl => ?_)
  refine lv_iload hx hb dX8_blend_52 (lv_at hl 0 rfl) ?_
  refine lv_if_eq (tgt := 65) hx hb dX8_blend_54 (by decide) (fun c_21 => absurd c_21 (by decide)) (fun c_21 => ?_)
  refine lv_aload_n hx hb dX8_blend_57 rfl (lv_at hl 1 rfl) ?_
  refine lv_iload_n hx hb dX8_blend_58 rfl (lv_at hl 2 rfl) ?_
  refine vp_callSi (W.runV (As := [.int a1]) (rest := []) ⟨hx, hb, hml, hown, hts⟩ (s_X8_areTanksToBlend l D ws tys h0 X0 a1) (cwV 1 hts gX8_blend_X8_areTanksToBlend rfl rfl rfl (by decide +kernel) ⟨Nat.le_of_ble_eq_true rfl, Nat.le_of_ble_eq_true rfl⟩) ⟨fun a U g mk q => ⟨q.1, q.2.1, va_K.moved (u := U) (U := U.calling g mk a) (Vm.Alike.refl U.vm) q.2.2⟩, va_recv hK hP (ci := 8) (q0 := k0) rfl e0, fun U hU hW => ⟨rfl, by rw [hU]; exact hP, va_K.moved hW.alike hK⟩⟩ rfl rfl hl.1 rfl (lv_room (Nat.le_of_ble_eq_true rfl)) dX8_blend_59 ⟨Nat.le_of_ble_eq_true rfl, Nat.le_of_ble_eq_true rfl⟩) (fun r_22 k_23 => ?_)
  subst k_23
  refine lv_if_ne (tgt := 67) hx hb dX8_blend_62 (by decide) (fun c_24 => absurd (by decide) c_24) (fun c_24 => ?_)
  refine lv_iconst (v := (-1)) hx hb dX8_blend_65 (by decide) ?_
  exact W.iret (v := (-1)) hx hb hr (fun t ht hW => ⟨(-1), rfl, (by first | rfl | (simp_all; done) | simp [c_5, c_10, c_15, c_20, c_21, c_24]), ht⟩) (fun _ h9 => by cases h9) dX8_blend_66
end
section
theorem dX9_isLot_0 : decode cX9_isLot 0 = .ok (.iload_n 1, 1) := by decide +kernel
theorem dX9_isLot_1 : decode cX9_isLot 1 = .ok (.ifCond .lt 15, 3) := by decide +kernel
theorem dX9_isLot_4 : decode cX9_isLot 4 = .ok (.iload_n 1, 1) := by decide +kernel
theorem dX9_isLot_5 : decode cX9_isLot 5 = .ok (.aload_n 0, 1) := by decide +kernel
theorem dX9_isLot_6 : decode cX9_isLot 6 = .ok (.getfield 20, 3) := by decide +kernel
theorem dX9_isLot_9 : decode cX9_isLot 9 = .ok (.if_icmp .ge 7, 3) := by decide +kernel
theorem dX9_isLot_16 : decode cX9_isLot 16 = .ok (.iconst 0, 1) := by decide +kernel
theorem dX9_isLot_17 : decode cX9_isLot 17 = .ok (.ireturn, 1) := by decide +kernel
theorem dX9_all_0 : decode cX9_all 0 = .ok (.iconst 0, 1) := by decide +kernel
theorem dX9_all_1 : decode cX9_all 1 = .ok (.istore_n 2, 1) := by decide +kernel
theorem dX9_all_2 : decode cX9_all 2 = .ok (.iconst 0, 1) := by decide +kernel
theorem dX9_all_3 : decode cX9_all 3 = .ok (.istore_n 3, 1) := by decide +kernel
theorem dX9_all_4 : decode cX9_all 4 = .ok (.iload_n 3, 1) := by decide +kernel
theorem dX9_all_5 : decode cX9_all 5 = .ok (.aload_n 0, 1) := by decide +kernel
theorem dX9_all_6 : decode cX9_all 6 = .ok (.getfield 20, 3) := by decide +kernel
theorem dX9_all_9 : decode cX9_all 9 = .ok (.if_icmp .ge 23, 3) := by decide +kernel
theorem dX9_all_32 : decode cX9_all 32 = .ok (.iload_n 2, 1) := by decide +kernel
theorem dX9_all_33 : decode cX9_all 33 = .ok (.ireturn, 1) := by decide +kernel
theorem dX9_row_0 : decode cX9_row 0 = .ok (.iload_n 1, 1) := by decide +kernel
theorem dX9_row_1 : decode cX9_row 1 = .ok (.ifCond .ne 16, 3) := by decide +kernel
theorem dX9_row_4 : decode cX9_row 4 = .ok (.iload_n 2, 1) := by decide +kernel
theorem dX9_row_5 : decode cX9_row 5 = .ok (.invokestatic 165, 3) := by decide +kernel
theorem dX9_row_8 : decode cX9_row 8 = .ok (.ifCond .eq 7, 3) := by decide +kernel
theorem dX9_row_11 : decode cX9_row 11 = .ok (.iload_n 2, 1) := by decide +kernel
theorem dX9_row_12 : decode cX9_row 12 = .ok (.goto 4, 3) := by decide +kernel
theorem dX9_row_15 : decode cX9_row 15 = .ok (.iconst (-1), 1) := by decide +kernel
theorem dX9_row_16 : decode cX9_row 16 = .ok (.ireturn, 1) := by decide +kernel
theorem dX9_row_17 : decode cX9_row 17 = .ok (.iload_n 1, 1) := by decide +kernel
theorem dX9_row_18 : decode cX9_row 18 = .ok (.iconst 1, 1) := by decide +kernel
theorem dX9_row_19 : decode cX9_row 19 = .ok (.if_icmp .ne 22, 3) := by decide +kernel
theorem dX9_row_22 : decode cX9_row 22 = .ok (.iload_n 2, 1) := by decide +kernel
theorem dX9_row_23 : decode cX9_row 23 = .ok (.ifCond .lt 18, 3) := by decide +kernel
theorem dX9_row_26 : decode cX9_row 26 = .ok (.iload_n 2, 1) := by decide +kernel
theorem dX9_row_27 : decode cX9_row 27 = .ok (.aload_n 0, 1) := by decide +kernel
theorem dX9_row_28 : decode cX9_row 28 = .ok (.getfield 50, 3) := by decide +kernel
theorem dX9_row_31 : decode cX9_row 31 = .ok (.if_icmp .ge 10, 3) := by decide +kernel
theorem dX9_row_41 : decode cX9_row 41 = .ok (.iconst (-1), 1) := by decide +kernel
theorem dX9_row_42 : decode cX9_row 42 = .ok (.ireturn, 1) := by decide +kernel
theorem dX9_pollen_0 : decode cX9_pollen 0 = .ok (.aload_n 0, 1) := by decide +kernel
theorem dX9_pollen_1 : decode cX9_pollen 1 = .ok (.iload_n 1, 1) := by decide +kernel
theorem dX9_pollen_2 : decode cX9_pollen 2 = .ok (.invokevirtual 160, 3) := by decide +kernel
theorem dX9_pollen_5 : decode cX9_pollen 5 = .ok (.ifCond .eq 30, 3) := by decide +kernel
theorem dX9_pollen_35 : decode cX9_pollen 35 = .ok (.iconst 0, 1) := by decide +kernel
theorem dX9_pollen_36 : decode cX9_pollen 36 = .ok (.ireturn, 1) := by decide +kernel
theorem dX9_test_0 : decode cX9_test 0 = .ok (.aload_n 0, 1) := by decide +kernel
theorem dX9_test_1 : decode cX9_test 1 = .ok (.iload_n 1, 1) := by decide +kernel
theorem dX9_test_2 : decode cX9_test 2 = .ok (.invokevirtual 160, 3) := by decide +kernel
theorem dX9_test_5 : decode cX9_test 5 = .ok (.ifCond .eq 15, 3) := by decide +kernel
theorem dX9_test_20 : decode cX9_test 20 = .ok (.ldc 164, 2) := by decide +kernel
theorem dX9_test_22 : decode cX9_test 22 = .ok (.ireturn, 1) := by decide +kernel
theorem dX9_of_0 : decode cX9_of 0 = .ok (.aload_n 0, 1) := by decide +kernel
theorem dX9_of_1 : decode cX9_of 1 = .ok (.iload_n 1, 1) := by decide +kernel
theorem dX9_of_2 : decode cX9_of 2 = .ok (.invokevirtual 160, 3) := by decide +kernel
theorem dX9_of_5 : decode cX9_of 5 = .ok (.ifCond .eq 13, 3) := by decide +kernel
theorem dX9_of_18 : decode cX9_of 18 = .ok (.iconst (-1), 1) := by decide +kernel
theorem dX9_of_19 : decode cX9_of 19 = .ok (.goto 14, 3) := by decide +kernel
theorem dX9_of_33 : decode cX9_of 33 = .ok (.ireturn, 1) := by decide +kernel
theorem dX9_span_0 : decode cX9_span 0 = .ok (.aload_n 0, 1) := by decide +kernel
theorem dX9_span_1 : decode cX9_span 1 = .ok (.iload_n 1, 1) := by decide +kernel
theorem dX9_span_2 : decode cX9_span 2 = .ok (.invokevirtual 160, 3) := by decide +kernel
theorem dX9_span_5 : decode cX9_span 5 = .ok (.ifCond .eq 21, 3) := by decide +kernel
theorem dX9_span_26 : decode cX9_span 26 = .ok (.iconst (-1), 1) := by decide +kernel
theorem dX9_span_27 : decode cX9_span 27 = .ok (.goto 30, 3) := by decide +kernel
theorem dX9_span_57 : decode cX9_span 57 = .ok (.ireturn, 1) := by decide +kernel
theorem dX9_trace_0 : decode cX9_trace 0 = .ok (.aload_n 0, 1) := by decide +kernel
theorem dX9_trace_1 : decode cX9_trace 1 = .ok (.iload_n 1, 1) := by decide +kernel
theorem dX9_trace_2 : decode cX9_trace 2 = .ok (.invokevirtual 160, 3) := by decide +kernel
theorem dX9_trace_5 : decode cX9_trace 5 = .ok (.ifCond .ne 5, 3) := by decide +kernel
theorem dX9_trace_8 : decode cX9_trace 8 = .ok (.iconst (-1), 1) := by decide +kernel
theorem dX9_trace_9 : decode cX9_trace 9 = .ok (.ireturn, 1) := by decide +kernel
theorem dX9_pour_0 : decode cX9_pour 0 = .ok (.aload_n 0, 1) := by decide +kernel
theorem dX9_pour_1 : decode cX9_pour 1 = .ok (.iload_n 1, 1) := by decide +kernel
theorem dX9_pour_2 : decode cX9_pour 2 = .ok (.invokevirtual 160, 3) := by decide +kernel
theorem dX9_pour_5 : decode cX9_pour 5 = .ok (.ifCond .eq 10, 3) := by decide +kernel
theorem dX9_pour_15 : decode cX9_pour 15 = .ok (.iconst (-1), 1) := by decide +kernel
theorem dX9_pour_16 : decode cX9_pour 16 = .ok (.ireturn, 1) := by decide +kernel
theorem dX9_move_0 : decode cX9_move 0 = .ok (.iload_n 1, 1) := by decide +kernel
theorem dX9_move_1 : decode cX9_move 1 = .ok (.invokestatic 165, 3) := by decide +kernel
theorem dX9_move_4 : decode cX9_move 4 = .ok (.ifCond .eq 15, 3) := by decide +kernel
theorem dX9_move_7 : decode cX9_move 7 = .ok (.iload_n 2, 1) := by decide +kernel
theorem dX9_move_8 : decode cX9_move 8 = .ok (.invokestatic 165, 3) := by decide +kernel
theorem dX9_move_11 : decode cX9_move 11 = .ok (.ifCond .eq 8, 3) := by decide +kernel
theorem dX9_move_14 : decode cX9_move 14 = .ok (.iload_n 1, 1) := by decide +kernel
theorem dX9_move_15 : decode cX9_move 15 = .ok (.iload_n 2, 1) := by decide +kernel
theorem dX9_move_16 : decode cX9_move 16 = .ok (.if_icmp .ne 5, 3) := by decide +kernel
theorem dX9_move_19 : decode cX9_move 19 = .ok (.iconst (-1), 1) := by decide +kernel
theorem dX9_move_20 : decode cX9_move 20 = .ok (.ireturn, 1) := by decide +kernel
theorem dX9_move_21 : decode cX9_move 21 = .ok (.iload_n 3, 1) := by decide +kernel
theorem dX9_move_22 : decode cX9_move 22 = .ok (.iconst 1, 1) := by decide +kernel
theorem dX9_move_23 : decode cX9_move 23 = .ok (.if_icmp .lt 28, 3) := by decide +kernel
theorem dX9_move_26 : decode cX9_move 26 = .ok (.iload_n 3, 1) := by decide +kernel
theorem dX9_move_27 : decode cX9_move 27 = .ok (.aload_n 0, 1) := by decide +kernel
theorem dX9_move_28 : decode cX9_move 28 = .ok (.iload_n 1, 1) := by decide +kernel
theorem dX9_move_29 : decode cX9_move 29 = .ok (.invokevirtual 169, 3) := by decide +kernel
theorem dX9_move_32 : decode cX9_move 32 = .ok (.if_icmp .gt 19, 3) := by decide +kernel
theorem dX9_move_51 : decode cX9_move 51 = .ok (.bipush (-2), 2) := by decide +kernel
theorem dX9_move_53 : decode cX9_move 53 = .ok (.ireturn, 1) := by decide +kernel
theorem dX9_warm_0 : decode cX9_warm 0 = .ok (.iload_n 1, 1) := by decide +kernel
theorem dX9_warm_1 : decode cX9_warm 1 = .ok (.invokestatic 165, 3) := by decide +kernel
theorem dX9_warm_4 : decode cX9_warm 4 = .ok (.ifCond .eq 22, 3) := by decide +kernel
theorem dX9_warm_7 : decode cX9_warm 7 = .ok (.aload_n 0, 1) := by decide +kernel
theorem dX9_warm_8 : decode cX9_warm 8 = .ok (.iload_n 1, 1) := by decide +kernel
theorem dX9_warm_9 : decode cX9_warm 9 = .ok (.invokevirtual 169, 3) := by decide +kernel
theorem dX9_warm_12 : decode cX9_warm 12 = .ok (.ifCond .eq 14, 3) := by decide +kernel
theorem dX9_warm_26 : decode cX9_warm 26 = .ok (.iconst (-1), 1) := by decide +kernel
theorem dX9_warm_27 : decode cX9_warm 27 = .ok (.ireturn, 1) := by decide +kernel
theorem dX9_jar_0 : decode cX9_jar 0 = .ok (.iload_n 1, 1) := by decide +kernel
theorem dX9_jar_1 : decode cX9_jar 1 = .ok (.invokestatic 165, 3) := by decide +kernel
theorem dX9_jar_4 : decode cX9_jar 4 = .ok (.ifCond .ne 5, 3) := by decide +kernel
theorem dX9_jar_7 : decode cX9_jar 7 = .ok (.iconst (-1), 1) := by decide +kernel
theorem dX9_jar_8 : decode cX9_jar 8 = .ok (.ireturn, 1) := by decide +kernel
theorem dX9_jar_9 : decode cX9_jar 9 = .ok (.iload_n 2, 1) := by decide +kernel
theorem dX9_jar_10 : decode cX9_jar 10 = .ok (.iconst 1, 1) := by decide +kernel
theorem dX9_jar_11 : decode cX9_jar 11 = .ok (.if_icmp .lt 12, 3) := by decide +kernel
theorem dX9_jar_14 : decode cX9_jar 14 = .ok (.iload_n 2, 1) := by decide +kernel
theorem dX9_jar_15 : decode cX9_jar 15 = .ok (.aload_n 0, 1) := by decide +kernel
theorem dX9_jar_16 : decode cX9_jar 16 = .ok (.iload_n 1, 1) := by decide +kernel
theorem dX9_jar_17 : decode cX9_jar 17 = .ok (.invokevirtual 169, 3) := by decide +kernel
theorem dX9_jar_20 : decode cX9_jar 20 = .ok (.if_icmp .le 6, 3) := by decide +kernel
theorem dX9_jar_23 : decode cX9_jar 23 = .ok (.bipush (-2), 2) := by decide +kernel
theorem dX9_jar_25 : decode cX9_jar 25 = .ok (.ireturn, 1) := by decide +kernel
theorem dX9_spill_0 : decode cX9_spill 0 = .ok (.iload_n 1, 1) := by decide +kernel
theorem dX9_spill_1 : decode cX9_spill 1 = .ok (.invokestatic 165, 3) := by decide +kernel
theorem dX9_spill_4 : decode cX9_spill 4 = .ok (.ifCond .ne 5, 3) := by decide +kernel
theorem dX9_spill_7 : decode cX9_spill 7 = .ok (.iconst (-1), 1) := by decide +kernel
theorem dX9_spill_8 : decode cX9_spill 8 = .ok (.ireturn, 1) := by decide +kernel
theorem dX9_spill_9 : decode cX9_spill 9 = .ok (.iload_n 2, 1) := by decide +kernel
theorem dX9_spill_10 : decode cX9_spill 10 = .ok (.iconst 1, 1) := by decide +kernel
theorem dX9_spill_11 : decode cX9_spill 11 = .ok (.if_icmp .lt 12, 3) := by decide +kernel
theorem dX9_spill_14 : decode cX9_spill 14 = .ok (.iload_n 2, 1) := by decide +kernel
theorem dX9_spill_15 : decode cX9_spill 15 = .ok (.aload_n 0, 1) := by decide +kernel
theorem dX9_spill_16 : decode cX9_spill 16 = .ok (.iload_n 1, 1) := by decide +kernel
theorem dX9_spill_17 : decode cX9_spill 17 = .ok (.invokevirtual 169, 3) := by decide +kernel
theorem dX9_spill_20 : decode cX9_spill 20 = .ok (.if_icmp .le 6, 3) := by decide +kernel
theorem dX9_spill_23 : decode cX9_spill 23 = .ok (.bipush (-2), 2) := by decide +kernel
theorem dX9_spill_25 : decode cX9_spill 25 = .ok (.ireturn, 1) := by decide +kernel
theorem dX9_holds_0 : decode cX9_holds 0 = .ok (.aload_n 0, 1) := by decide +kernel
theorem dX9_holds_1 : decode cX9_holds 1 = .ok (.iload_n 1, 1) := by decide +kernel
theorem dX9_holds_2 : decode cX9_holds 2 = .ok (.iload_n 2, 1) := by decide +kernel
theorem dX9_holds_3 : decode cX9_holds 3 = .ok (.invokevirtual 179, 3) := by decide +kernel
theorem dX9_holds_6 : decode cX9_holds 6 = .ok (.istore 4, 2) := by decide +kernel
theorem dX9_holds_8 : decode cX9_holds 8 = .ok (.iload 4, 2) := by decide +kernel
theorem dX9_holds_10 : decode cX9_holds 10 = .ok (.ifCond .ge 5, 3) := by decide +kernel
theorem dX9_holds_13 : decode cX9_holds 13 = .ok (.iconst (-1), 1) := by decide +kernel
theorem dX9_holds_14 : decode cX9_holds 14 = .ok (.ireturn, 1) := by decide +kernel
theorem dX9_holds_15 : decode cX9_holds 15 = .ok (.iconst 0, 1) := by decide +kernel
theorem dX9_holds_16 : decode cX9_holds 16 = .ok (.istore 5, 2) := by decide +kernel
theorem dX9_holds_18 : decode cX9_holds 18 = .ok (.iload_n 3, 1) := by decide +kernel
theorem dX9_holds_19 : decode cX9_holds 19 = .ok (.tableswitch 111 0 4 #[33, 40, 87, 95, 103], 33) := by decide +kernel
theorem dX9_holds_52 : decode cX9_holds 52 = .ok (.aload_n 0, 1) := by decide +kernel
theorem dX9_holds_53 : decode cX9_holds 53 = .ok (.iload 4, 2) := by decide +kernel
theorem dX9_holds_55 : decode cX9_holds 55 = .ok (.invokevirtual 169, 3) := by decide +kernel
theorem dX9_holds_58 : decode cX9_holds 58 = .ok (.ireturn, 1) := by decide +kernel
theorem dX9_holds_59 : decode cX9_holds 59 = .ok (.iconst 0, 1) := by decide +kernel
theorem dX9_holds_60 : decode cX9_holds 60 = .ok (.istore 6, 2) := by decide +kernel
theorem dX9_holds_62 : decode cX9_holds 62 = .ok (.iload 6, 2) := by decide +kernel
theorem dX9_holds_64 : decode cX9_holds 64 = .ok (.aload_n 0, 1) := by decide +kernel
theorem dX9_holds_65 : decode cX9_holds 65 = .ok (.getfield 20, 3) := by decide +kernel
theorem dX9_holds_68 : decode cX9_holds 68 = .ok (.if_icmp .ge 35, 3) := by decide +kernel
theorem dX9_holds_103 : decode cX9_holds 103 = .ok (.iload 5, 2) := by decide +kernel
theorem dX9_holds_105 : decode cX9_holds 105 = .ok (.ireturn, 1) := by decide +kernel
theorem dX9_holds_106 : decode cX9_holds 106 = .ok (.aload_n 0, 1) := by decide +kernel
theorem dX9_holds_107 : decode cX9_holds 107 = .ok (.getfield 41, 3) := by decide +kernel
theorem dX9_holds_110 : decode cX9_holds 110 = .ok (.iload 4, 2) := by decide +kernel
theorem dX9_holds_112 : decode cX9_holds 112 = .ok (.iaload, 1) := by decide +kernel
theorem dX9_holds_113 : decode cX9_holds 113 = .ok (.ireturn, 1) := by decide +kernel
theorem dX9_holds_114 : decode cX9_holds 114 = .ok (.aload_n 0, 1) := by decide +kernel
theorem dX9_holds_115 : decode cX9_holds 115 = .ok (.getfield 44, 3) := by decide +kernel
theorem dX9_holds_118 : decode cX9_holds 118 = .ok (.iload 4, 2) := by decide +kernel
theorem dX9_holds_120 : decode cX9_holds 120 = .ok (.iaload, 1) := by decide +kernel
theorem dX9_holds_121 : decode cX9_holds 121 = .ok (.ireturn, 1) := by decide +kernel
theorem dX9_holds_122 : decode cX9_holds 122 = .ok (.aload_n 0, 1) := by decide +kernel
theorem dX9_holds_123 : decode cX9_holds 123 = .ok (.getfield 47, 3) := by decide +kernel
theorem dX9_holds_126 : decode cX9_holds 126 = .ok (.iload 4, 2) := by decide +kernel
theorem dX9_holds_128 : decode cX9_holds 128 = .ok (.iaload, 1) := by decide +kernel
theorem dX9_holds_129 : decode cX9_holds 129 = .ok (.ireturn, 1) := by decide +kernel
theorem dX9_holds_130 : decode cX9_holds 130 = .ok (.iconst (-1), 1) := by decide +kernel
theorem dX9_holds_131 : decode cX9_holds 131 = .ok (.ireturn, 1) := by decide +kernel
theorem dX9_part_0 : decode cX9_part 0 = .ok (.aload_n 0, 1) := by decide +kernel
theorem dX9_part_1 : decode cX9_part 1 = .ok (.iload_n 1, 1) := by decide +kernel
theorem dX9_part_2 : decode cX9_part 2 = .ok (.iload_n 2, 1) := by decide +kernel
theorem dX9_part_3 : decode cX9_part 3 = .ok (.invokevirtual 179, 3) := by decide +kernel
theorem dX9_part_6 : decode cX9_part 6 = .ok (.istore 4, 2) := by decide +kernel
theorem dX9_part_8 : decode cX9_part 8 = .ok (.iload 4, 2) := by decide +kernel
theorem dX9_part_10 : decode cX9_part 10 = .ok (.ifCond .lt 11, 3) := by decide +kernel
theorem dX9_part_13 : decode cX9_part 13 = .ok (.aload_n 0, 1) := by decide +kernel
theorem dX9_part_14 : decode cX9_part 14 = .ok (.iload_n 3, 1) := by decide +kernel
theorem dX9_part_15 : decode cX9_part 15 = .ok (.invokevirtual 160, 3) := by decide +kernel
theorem dX9_part_18 : decode cX9_part 18 = .ok (.ifCond .ne 7, 3) := by decide +kernel
theorem dX9_part_21 : decode cX9_part 21 = .ok (.iconst (-1), 1) := by decide +kernel
theorem dX9_part_22 : decode cX9_part 22 = .ok (.goto 15, 3) := by decide +kernel
theorem dX9_part_37 : decode cX9_part 37 = .ok (.ireturn, 1) := by decide +kernel
theorem dX9_isMeasure_0 : decode cX9_isMeasure 0 = .ok (.iload_n 0, 1) := by decide +kernel
theorem dX9_isMeasure_1 : decode cX9_isMeasure 1 = .ok (.iconst 0, 1) := by decide +kernel
theorem dX9_isMeasure_2 : decode cX9_isMeasure 2 = .ok (.iconst 2, 1) := by decide +kernel
theorem dX9_isMeasure_3 : decode cX9_isMeasure 3 = .ok (.invokestatic 151, 3) := by decide +kernel
theorem dX9_isMeasure_6 : decode cX9_isMeasure 6 = .ok (.ifCond .ne 36, 3) := by decide +kernel
theorem dX9_isMeasure_9 : decode cX9_isMeasure 9 = .ok (.iload_n 0, 1) := by decide +kernel
theorem dX9_isMeasure_10 : decode cX9_isMeasure 10 = .ok (.bipush 10, 2) := by decide +kernel
theorem dX9_isMeasure_12 : decode cX9_isMeasure 12 = .ok (.bipush 14, 2) := by decide +kernel
theorem dX9_isMeasure_14 : decode cX9_isMeasure 14 = .ok (.invokestatic 151, 3) := by decide +kernel
theorem dX9_isMeasure_17 : decode cX9_isMeasure 17 = .ok (.ifCond .ne 25, 3) := by decide +kernel
theorem dX9_isMeasure_20 : decode cX9_isMeasure 20 = .ok (.iload_n 0, 1) := by decide +kernel
theorem dX9_isMeasure_21 : decode cX9_isMeasure 21 = .ok (.bipush 20, 2) := by decide +kernel
theorem dX9_isMeasure_23 : decode cX9_isMeasure 23 = .ok (.bipush 24, 2) := by decide +kernel
theorem dX9_isMeasure_25 : decode cX9_isMeasure 25 = .ok (.invokestatic 151, 3) := by decide +kernel
theorem dX9_isMeasure_28 : decode cX9_isMeasure 28 = .ok (.ifCond .ne 14, 3) := by decide +kernel
theorem dX9_isMeasure_31 : decode cX9_isMeasure 31 = .ok (.iload_n 0, 1) := by decide +kernel
theorem dX9_isMeasure_32 : decode cX9_isMeasure 32 = .ok (.bipush 30, 2) := by decide +kernel
theorem dX9_isMeasure_34 : decode cX9_isMeasure 34 = .ok (.bipush 33, 2) := by decide +kernel
theorem dX9_isMeasure_36 : decode cX9_isMeasure 36 = .ok (.invokestatic 151, 3) := by decide +kernel
theorem dX9_isMeasure_39 : decode cX9_isMeasure 39 = .ok (.ifCond .eq 7, 3) := by decide +kernel
theorem dX9_isMeasure_42 : decode cX9_isMeasure 42 = .ok (.iconst 1, 1) := by decide +kernel
theorem dX9_isMeasure_43 : decode cX9_isMeasure 43 = .ok (.goto 4, 3) := by decide +kernel
theorem dX9_isMeasure_46 : decode cX9_isMeasure 46 = .ok (.iconst 0, 1) := by decide +kernel
theorem dX9_isMeasure_47 : decode cX9_isMeasure 47 = .ok (.ireturn, 1) := by decide +kernel
theorem dX9_measure_0 : decode cX9_measure 0 = .ok (.aload_n 0, 1) := by decide +kernel
theorem dX9_measure_1 : decode cX9_measure 1 = .ok (.iload_n 1, 1) := by decide +kernel
theorem dX9_measure_2 : decode cX9_measure 2 = .ok (.iload_n 2, 1) := by decide +kernel
theorem dX9_measure_3 : decode cX9_measure 3 = .ok (.invokevirtual 179, 3) := by decide +kernel
theorem dX9_measure_6 : decode cX9_measure 6 = .ok (.istore 4, 2) := by decide +kernel
theorem dX9_measure_8 : decode cX9_measure 8 = .ok (.iload 4, 2) := by decide +kernel
theorem dX9_measure_10 : decode cX9_measure 10 = .ok (.ifCond .lt 19, 3) := by decide +kernel
theorem dX9_measure_13 : decode cX9_measure 13 = .ok (.aload_n 0, 1) := by decide +kernel
theorem dX9_measure_14 : decode cX9_measure 14 = .ok (.iload 4, 2) := by decide +kernel
theorem dX9_measure_16 : decode cX9_measure 16 = .ok (.invokevirtual 169, 3) := by decide +kernel
theorem dX9_measure_19 : decode cX9_measure 19 = .ok (.ifCond .eq 10, 3) := by decide +kernel
theorem dX9_measure_29 : decode cX9_measure 29 = .ok (.iconst (-1), 1) := by decide +kernel
theorem dX9_measure_30 : decode cX9_measure 30 = .ok (.ireturn, 1) := by decide +kernel
theorem dX9_fault_0 : decode cX9_fault 0 = .ok (.iload_n 1, 1) := by decide +kernel
theorem dX9_fault_1 : decode cX9_fault 1 = .ok (.ifCond .ne 10, 3) := by decide +kernel
theorem dX9_fault_4 : decode cX9_fault 4 = .ok (.aload_n 0, 1) := by decide +kernel
theorem dX9_fault_5 : decode cX9_fault 5 = .ok (.getfield 74, 3) := by decide +kernel
theorem dX9_fault_8 : decode cX9_fault 8 = .ok (.goto 16, 3) := by decide +kernel
theorem dX9_fault_11 : decode cX9_fault 11 = .ok (.iload_n 1, 1) := by decide +kernel
theorem dX9_fault_12 : decode cX9_fault 12 = .ok (.iconst 1, 1) := by decide +kernel
theorem dX9_fault_13 : decode cX9_fault 13 = .ok (.if_icmp .ne 10, 3) := by decide +kernel
theorem dX9_fault_16 : decode cX9_fault 16 = .ok (.aload_n 0, 1) := by decide +kernel
theorem dX9_fault_17 : decode cX9_fault 17 = .ok (.getfield 77, 3) := by decide +kernel
theorem dX9_fault_20 : decode cX9_fault 20 = .ok (.goto 4, 3) := by decide +kernel
theorem dX9_fault_23 : decode cX9_fault 23 = .ok (.iconst (-1), 1) := by decide +kernel
theorem dX9_fault_24 : decode cX9_fault 24 = .ok (.ireturn, 1) := by decide +kernel
theorem dX9_shut_0 : decode cX9_shut 0 = .ok (.iload_n 1, 1) := by decide +kernel
theorem dX9_shut_1 : decode cX9_shut 1 = .ok (.ifCond .lt 31, 3) := by decide +kernel
theorem dX9_shut_4 : decode cX9_shut 4 = .ok (.iload_n 1, 1) := by decide +kernel
theorem dX9_shut_5 : decode cX9_shut 5 = .ok (.aload_n 0, 1) := by decide +kernel
theorem dX9_shut_6 : decode cX9_shut 6 = .ok (.getfield 53, 3) := by decide +kernel
theorem dX9_shut_9 : decode cX9_shut 9 = .ok (.if_icmp .ge 23, 3) := by decide +kernel
theorem dX9_shut_32 : decode cX9_shut 32 = .ok (.iconst 0, 1) := by decide +kernel
theorem dX9_shut_33 : decode cX9_shut 33 = .ok (.ireturn, 1) := by decide +kernel
theorem dX9_says_0 : decode cX9_says 0 = .ok (.aload_n 0, 1) := by decide +kernel
theorem dX9_says_1 : decode cX9_says 1 = .ok (.iload_n 2, 1) := by decide +kernel
theorem dX9_says_2 : decode cX9_says 2 = .ok (.iload_n 3, 1) := by decide +kernel
theorem dX9_says_3 : decode cX9_says 3 = .ok (.invokevirtual 179, 3) := by decide +kernel
theorem dX9_says_6 : decode cX9_says 6 = .ok (.istore 4, 2) := by decide +kernel
theorem dX9_says_8 : decode cX9_says 8 = .ok (.iload_n 1, 1) := by decide +kernel
theorem dX9_says_9 : decode cX9_says 9 = .ok (.ifCond .lt 25, 3) := by decide +kernel
theorem dX9_says_12 : decode cX9_says 12 = .ok (.iload_n 1, 1) := by decide +kernel
theorem dX9_says_13 : decode cX9_says 13 = .ok (.aload_n 0, 1) := by decide +kernel
theorem dX9_says_14 : decode cX9_says 14 = .ok (.getfield 53, 3) := by decide +kernel
theorem dX9_says_17 : decode cX9_says 17 = .ok (.if_icmp .ge 17, 3) := by decide +kernel
theorem dX9_says_34 : decode cX9_says 34 = .ok (.iconst (-1), 1) := by decide +kernel
theorem dX9_says_35 : decode cX9_says 35 = .ok (.ireturn, 1) := by decide +kernel
theorem dX9_name__0 : decode cX9_name_ 0 = .ok (.aload_n 0, 1) := by decide +kernel
theorem dX9_name__1 : decode cX9_name_ 1 = .ok (.iload_n 1, 1) := by decide +kernel
theorem dX9_name__2 : decode cX9_name_ 2 = .ok (.iload_n 2, 1) := by decide +kernel
theorem dX9_name__3 : decode cX9_name_ 3 = .ok (.invokevirtual 179, 3) := by decide +kernel
theorem dX9_name__6 : decode cX9_name_ 6 = .ok (.istore 4, 2) := by decide +kernel
theorem dX9_name__8 : decode cX9_name_ 8 = .ok (.iload 4, 2) := by decide +kernel
theorem dX9_name__10 : decode cX9_name_ 10 = .ok (.ifCond .lt 12, 3) := by decide +kernel
theorem dX9_name__13 : decode cX9_name_ 13 = .ok (.aload_n 0, 1) := by decide +kernel
theorem dX9_name__14 : decode cX9_name_ 14 = .ok (.iload 4, 2) := by decide +kernel
theorem dX9_name__16 : decode cX9_name_ 16 = .ok (.invokevirtual 169, 3) := by decide +kernel
theorem dX9_name__19 : decode cX9_name_ 19 = .ok (.ifCond .ne 5, 3) := by decide +kernel
theorem dX9_name__22 : decode cX9_name_ 22 = .ok (.iconst (-1), 1) := by decide +kernel
theorem dX9_name__23 : decode cX9_name_ 23 = .ok (.ireturn, 1) := by decide +kernel
theorem dX9_parts_0 : decode cX9_parts 0 = .ok (.aload_n 0, 1) := by decide +kernel
theorem dX9_parts_1 : decode cX9_parts 1 = .ok (.getfield 117, 3) := by decide +kernel
theorem dX9_parts_4 : decode cX9_parts 4 = .ok (.ifCond .eq 10, 3) := by decide +kernel
theorem dX9_parts_14 : decode cX9_parts 14 = .ok (.iconst (-1), 1) := by decide +kernel
theorem dX9_parts_15 : decode cX9_parts 15 = .ok (.goto 9, 3) := by decide +kernel
theorem dX9_parts_24 : decode cX9_parts 24 = .ok (.ireturn, 1) := by decide +kernel
theorem dX9_found_0 : decode cX9_found 0 = .ok (.iload_n 1, 1) := by decide +kernel
theorem dX9_found_1 : decode cX9_found 1 = .ok (.ifCond .lt 11, 3) := by decide +kernel
theorem dX9_found_4 : decode cX9_found 4 = .ok (.iload_n 1, 1) := by decide +kernel
theorem dX9_found_5 : decode cX9_found 5 = .ok (.aload_n 0, 1) := by decide +kernel
theorem dX9_found_6 : decode cX9_found 6 = .ok (.getfield 142, 3) := by decide +kernel
theorem dX9_found_9 : decode cX9_found 9 = .ok (.if_icmp .lt 7, 3) := by decide +kernel
theorem dX9_found_12 : decode cX9_found 12 = .ok (.iconst (-1), 1) := by decide +kernel
theorem dX9_found_13 : decode cX9_found 13 = .ok (.goto 9, 3) := by decide +kernel
theorem dX9_found_22 : decode cX9_found 22 = .ok (.ireturn, 1) := by decide +kernel
theorem dX9_count_0 : decode cX9_count 0 = .ok (.iload_n 1, 1) := by decide +kernel
theorem dX9_count_1 : decode cX9_count 1 = .ok (.tableswitch 51 0 3 #[31, 36, 41, 46], 31) := by decide +kernel
theorem dX9_count_32 : decode cX9_count 32 = .ok (.aload_n 0, 1) := by decide +kernel
theorem dX9_count_33 : decode cX9_count 33 = .ok (.getfield 20, 3) := by decide +kernel
theorem dX9_count_36 : decode cX9_count 36 = .ok (.ireturn, 1) := by decide +kernel
theorem dX9_count_37 : decode cX9_count 37 = .ok (.aload_n 0, 1) := by decide +kernel
theorem dX9_count_38 : decode cX9_count 38 = .ok (.getfield 50, 3) := by decide +kernel
theorem dX9_count_41 : decode cX9_count 41 = .ok (.ireturn, 1) := by decide +kernel
theorem dX9_count_42 : decode cX9_count 42 = .ok (.aload_n 0, 1) := by decide +kernel
theorem dX9_count_43 : decode cX9_count 43 = .ok (.getfield 53, 3) := by decide +kernel
theorem dX9_count_46 : decode cX9_count 46 = .ok (.ireturn, 1) := by decide +kernel
theorem dX9_count_47 : decode cX9_count 47 = .ok (.aload_n 0, 1) := by decide +kernel
theorem dX9_count_48 : decode cX9_count 48 = .ok (.getfield 17, 3) := by decide +kernel
theorem dX9_count_51 : decode cX9_count 51 = .ok (.ireturn, 1) := by decide +kernel
theorem dX9_count_52 : decode cX9_count 52 = .ok (.iconst (-1), 1) := by decide +kernel
theorem dX9_count_53 : decode cX9_count 53 = .ok (.ireturn, 1) := by decide +kernel
theorem dX9_paid_0 : decode cX9_paid 0 = .ok (.iload_n 1, 1) := by decide +kernel
theorem dX9_paid_1 : decode cX9_paid 1 = .ok (.iconst 0, 1) := by decide +kernel
theorem dX9_paid_2 : decode cX9_paid 2 = .ok (.bipush 9, 2) := by decide +kernel
theorem dX9_paid_4 : decode cX9_paid 4 = .ok (.invokestatic 151, 3) := by decide +kernel
theorem dX9_paid_7 : decode cX9_paid 7 = .ok (.ifCond .ne 7, 3) := by decide +kernel
theorem dX9_paid_10 : decode cX9_paid 10 = .ok (.ldc2_w 173, 3) := by decide +kernel
theorem dX9_paid_13 : decode cX9_paid 13 = .ok (.lreturn, 1) := by decide +kernel
theorem dX9_paid_14 : decode cX9_paid 14 = .ok (.lconst 0, 1) := by decide +kernel
theorem dX9_paid_15 : decode cX9_paid 15 = .ok (.lstore_n 2, 1) := by decide +kernel
theorem dX9_paid_16 : decode cX9_paid 16 = .ok (.iconst 0, 1) := by decide +kernel
theorem dX9_paid_17 : decode cX9_paid 17 = .ok (.istore 4, 2) := by decide +kernel
theorem dX9_paid_19 : decode cX9_paid 19 = .ok (.iload 4, 2) := by decide +kernel
theorem dX9_paid_21 : decode cX9_paid 21 = .ok (.aload_n 0, 1) := by decide +kernel
theorem dX9_paid_22 : decode cX9_paid 22 = .ok (.getfield 20, 3) := by decide +kernel
theorem dX9_paid_25 : decode cX9_paid 25 = .ok (.if_icmp .ge 44, 3) := by decide +kernel
theorem dX9_paid_69 : decode cX9_paid 69 = .ok (.lload_n 2, 1) := by decide +kernel
theorem dX9_paid_70 : decode cX9_paid 70 = .ok (.lreturn, 1) := by decide +kernel
theorem dX9_whose_0 : decode cX9_whose 0 = .ok (.iload_n 1, 1) := by decide +kernel
theorem dX9_whose_1 : decode cX9_whose 1 = .ok (.iconst 0, 1) := by decide +kernel
theorem dX9_whose_2 : decode cX9_whose 2 = .ok (.bipush 9, 2) := by decide +kernel
theorem dX9_whose_4 : decode cX9_whose 4 = .ok (.invokestatic 151, 3) := by decide +kernel
theorem dX9_whose_7 : decode cX9_whose 7 = .ok (.ifCond .eq 12, 3) := by decide +kernel
theorem dX9_whose_10 : decode cX9_whose 10 = .ok (.iload_n 2, 1) := by decide +kernel
theorem dX9_whose_11 : decode cX9_whose 11 = .ok (.iconst 0, 1) := by decide +kernel
theorem dX9_whose_12 : decode cX9_whose 12 = .ok (.iconst 3, 1) := by decide +kernel
theorem dX9_whose_13 : decode cX9_whose 13 = .ok (.invokestatic 151, 3) := by decide +kernel
theorem dX9_whose_16 : decode cX9_whose 16 = .ok (.ifCond .ne 7, 3) := by decide +kernel
theorem dX9_whose_19 : decode cX9_whose 19 = .ok (.ldc2_w 173, 3) := by decide +kernel
theorem dX9_whose_22 : decode cX9_whose 22 = .ok (.lreturn, 1) := by decide +kernel
theorem dX9_whose_23 : decode cX9_whose 23 = .ok (.lconst 0, 1) := by decide +kernel
theorem dX9_whose_24 : decode cX9_whose 24 = .ok (.lstore_n 3, 1) := by decide +kernel
theorem dX9_whose_25 : decode cX9_whose 25 = .ok (.lconst 0, 1) := by decide +kernel
theorem dX9_whose_26 : decode cX9_whose 26 = .ok (.lstore 5, 2) := by decide +kernel
theorem dX9_whose_28 : decode cX9_whose 28 = .ok (.lconst 0, 1) := by decide +kernel
theorem dX9_whose_29 : decode cX9_whose 29 = .ok (.lstore 7, 2) := by decide +kernel
theorem dX9_whose_31 : decode cX9_whose 31 = .ok (.lconst 0, 1) := by decide +kernel
theorem dX9_whose_32 : decode cX9_whose 32 = .ok (.lstore 9, 2) := by decide +kernel
theorem dX9_whose_34 : decode cX9_whose 34 = .ok (.iconst 0, 1) := by decide +kernel
theorem dX9_whose_35 : decode cX9_whose 35 = .ok (.istore 11, 2) := by decide +kernel
theorem dX9_whose_37 : decode cX9_whose 37 = .ok (.iload 11, 2) := by decide +kernel
theorem dX9_whose_39 : decode cX9_whose 39 = .ok (.aload_n 0, 1) := by decide +kernel
theorem dX9_whose_40 : decode cX9_whose 40 = .ok (.getfield 20, 3) := by decide +kernel
theorem dX9_whose_43 : decode cX9_whose 43 = .ok (.if_icmp .ge 141, 3) := by decide +kernel
theorem dX9_whose_184 : decode cX9_whose 184 = .ok (.iload_n 2, 1) := by decide +kernel
theorem dX9_whose_185 : decode cX9_whose 185 = .ok (.ifCond .ne 8, 3) := by decide +kernel
theorem dX9_whose_188 : decode cX9_whose 188 = .ok (.lload 5, 2) := by decide +kernel
theorem dX9_whose_190 : decode cX9_whose 190 = .ok (.goto 33, 3) := by decide +kernel
theorem dX9_whose_193 : decode cX9_whose 193 = .ok (.iload_n 2, 1) := by decide +kernel
theorem dX9_whose_194 : decode cX9_whose 194 = .ok (.iconst 1, 1) := by decide +kernel
theorem dX9_whose_195 : decode cX9_whose 195 = .ok (.if_icmp .ne 8, 3) := by decide +kernel
theorem dX9_whose_198 : decode cX9_whose 198 = .ok (.lload 7, 2) := by decide +kernel
theorem dX9_whose_200 : decode cX9_whose 200 = .ok (.goto 23, 3) := by decide +kernel
theorem dX9_whose_203 : decode cX9_whose 203 = .ok (.iload_n 2, 1) := by decide +kernel
theorem dX9_whose_204 : decode cX9_whose 204 = .ok (.iconst 2, 1) := by decide +kernel
theorem dX9_whose_205 : decode cX9_whose 205 = .ok (.if_icmp .ne 8, 3) := by decide +kernel
theorem dX9_whose_208 : decode cX9_whose 208 = .ok (.lload 9, 2) := by decide +kernel
theorem dX9_whose_210 : decode cX9_whose 210 = .ok (.goto 13, 3) := by decide +kernel
theorem dX9_whose_213 : decode cX9_whose 213 = .ok (.lload_n 3, 1) := by decide +kernel
theorem dX9_whose_214 : decode cX9_whose 214 = .ok (.lload 5, 2) := by decide +kernel
theorem dX9_whose_216 : decode cX9_whose 216 = .ok (.lsub, 1) := by decide +kernel
theorem dX9_whose_217 : decode cX9_whose 217 = .ok (.lload 7, 2) := by decide +kernel
theorem dX9_whose_219 : decode cX9_whose 219 = .ok (.lsub, 1) := by decide +kernel
theorem dX9_whose_220 : decode cX9_whose 220 = .ok (.lload 9, 2) := by decide +kernel
theorem dX9_whose_222 : decode cX9_whose 222 = .ok (.lsub, 1) := by decide +kernel
theorem dX9_whose_223 : decode cX9_whose 223 = .ok (.lreturn, 1) := by decide +kernel
theorem dX9_blend_0 : decode cX9_blend 0 = .ok (.iload_n 1, 1) := by decide +kernel
theorem dX9_blend_1 : decode cX9_blend 1 = .ok (.iconst 1, 1) := by decide +kernel
theorem dX9_blend_2 : decode cX9_blend 2 = .ok (.if_icmp .lt 56, 3) := by decide +kernel
theorem dX9_blend_5 : decode cX9_blend 5 = .ok (.iload_n 1, 1) := by decide +kernel
theorem dX9_blend_6 : decode cX9_blend 6 = .ok (.sipush 1023, 3) := by decide +kernel
theorem dX9_blend_9 : decode cX9_blend 9 = .ok (.if_icmp .gt 49, 3) := by decide +kernel
theorem dX9_blend_12 : decode cX9_blend 12 = .ok (.iload_n 2, 1) := by decide +kernel
theorem dX9_blend_13 : decode cX9_blend 13 = .ok (.iconst 1, 1) := by decide +kernel
theorem dX9_blend_14 : decode cX9_blend 14 = .ok (.bipush 40, 2) := by decide +kernel
theorem dX9_blend_16 : decode cX9_blend 16 = .ok (.invokestatic 151, 3) := by decide +kernel
theorem dX9_blend_19 : decode cX9_blend 19 = .ok (.ifCond .eq 39, 3) := by decide +kernel
theorem dX9_blend_22 : decode cX9_blend 22 = .ok (.iload_n 3, 1) := by decide +kernel
theorem dX9_blend_23 : decode cX9_blend 23 = .ok (.iconst 0, 1) := by decide +kernel
theorem dX9_blend_24 : decode cX9_blend 24 = .ok (.sipush 300, 3) := by decide +kernel
theorem dX9_blend_27 : decode cX9_blend 27 = .ok (.invokestatic 151, 3) := by decide +kernel
theorem dX9_blend_30 : decode cX9_blend 30 = .ok (.ifCond .eq 28, 3) := by decide +kernel
theorem dX9_blend_33 : decode cX9_blend 33 = .ok (.iload 4, 2) := by decide +kernel
theorem dX9_blend_35 : decode cX9_blend 35 = .ok (.iconst 0, 1) := by decide +kernel
theorem dX9_blend_36 : decode cX9_blend 36 = .ok (.sipush 140, 3) := by decide +kernel
theorem dX9_blend_39 : decode cX9_blend 39 = .ok (.invokestatic 151, 3) := by decide +kernel
theorem dX9_blend_42 : decode cX9_blend 42 = .ok (.ifCond .eq 16, 3) := by decide +kernel
theorem dX9_blend_45 : decode cX9_blend 45 = .ok (.iload 5, 2) := by decide +kernel
theorem dX9_blend_47 : decode cX9_blend 47 = .ok (.iload 4, 2) := by decide +kernel
theorem dX9_blend_49 : decode cX9_blend 49 = .ok (.sipush 140, 3) := by decide +kernel
theorem dX9_blend_52 : decode cX9_blend 52 = .ok (.invokestatic 151, 3) := by decide +kernel
theorem dX9_blend_55 : decode cX9_blend 55 = .ok (.ifCond .ne 5, 3) := by decide +kernel
theorem dX9_blend_58 : decode cX9_blend 58 = .ok (.iconst (-1), 1) := by decide +kernel
theorem dX9_blend_59 : decode cX9_blend 59 = .ok (.ireturn, 1) := by decide +kernel
theorem dX9_blend_60 : decode cX9_blend 60 = .ok (.iconst 0, 1) := by decide +kernel
theorem dX9_blend_61 : decode cX9_blend 61 = .ok (.istore 6, 2) := by decide +kernel
theorem dX9_blend_63 : decode cX9_blend 63 = .ok (.iconst 0, 1) := by decide +kernel
theorem dX9_blend_64 : decode cX9_blend 64 = .ok (.istore 7, 2) := by decide +kernel
theorem dX9_blend_66 : decode cX9_blend 66 = .ok (.iload 7, 2) := by decide +kernel
theorem dX9_blend_68 : decode cX9_blend 68 = .ok (.bipush 10, 2) := by decide +kernel
theorem dX9_blend_70 : decode cX9_blend 70 = .ok (.if_icmp .ge 50, 3) := by decide +kernel
theorem dX9_blend_73 : decode cX9_blend 73 = .ok (.iload_n 1, 1) := by decide +kernel
theorem dX9_blend_74 : decode cX9_blend 74 = .ok (.iload 7, 2) := by decide +kernel
theorem dX9_blend_76 : decode cX9_blend 76 = .ok (.ishr, 1) := by decide +kernel
theorem dX9_blend_77 : decode cX9_blend 77 = .ok (.iconst 1, 1) := by decide +kernel
theorem dX9_blend_78 : decode cX9_blend 78 = .ok (.iand, 1) := by decide +kernel
theorem dX9_blend_79 : decode cX9_blend 79 = .ok (.ifCond .ne 6, 3) := by decide +kernel
theorem dX9_blend_82 : decode cX9_blend 82 = .ok (.goto 32, 3) := by decide +kernel
theorem dX9_blend_85 : decode cX9_blend 85 = .ok (.iload 6, 2) := by decide +kernel
theorem dX9_blend_87 : decode cX9_blend 87 = .ok (.iconst 4, 1) := by decide +kernel
theorem dX9_blend_88 : decode cX9_blend 88 = .ok (.if_icmp .eq 12, 3) := by decide +kernel
theorem dX9_blend_91 : decode cX9_blend 91 = .ok (.aload_n 0, 1) := by decide +kernel
theorem dX9_blend_92 : decode cX9_blend 92 = .ok (.iload 7, 2) := by decide +kernel
theorem dX9_blend_94 : decode cX9_blend 94 = .ok (.invokevirtual 169, 3) := by decide +kernel
theorem dX9_blend_97 : decode cX9_blend 97 = .ok (.ifCond .ne 5, 3) := by decide +kernel
theorem dX9_blend_100 : decode cX9_blend 100 = .ok (.iconst (-1), 1) := by decide +kernel
theorem dX9_blend_101 : decode cX9_blend 101 = .ok (.ireturn, 1) := by decide +kernel
theorem dX9_blend_114 : decode cX9_blend 114 = .ok (.iinc 7 1, 3) := by decide +kernel
theorem dX9_blend_117 : decode cX9_blend 117 = .ok (.goto (-51), 3) := by decide +kernel
set_option maxRecDepth 20000 in
theorem ggX9_row_X9_isTank : GoodIn wsX9_row wsX9_isTank := goodIn_r _ [5] (by decide +kernel) (by decide +kernel)
set_option maxRecDepth 20000 in
theorem gX9_row_X9_isTank : GoodIn wsX9_row (va_wsS RX9 165 yX9_isTank wsX9_isTank) := goodIn_app (goodIn_of _ (by decide +kernel)) ggX9_row_X9_isTank
set_option maxRecDepth 20000 in
theorem ggX9_pollen_X9_isLot : GoodIn wsX9_pollen wsX9_isLot := goodIn_r _ [7, 8, 12, 13, 14, 15, 16, 17, 18, 19, 20, 21, 22, 23, 24, 25, 26, 27, 28, 29, 30, 31, 32, 33, 34, 35, 36, 37, 38, 39, 40, 41, 42, 43, 44, 45, 46, 47, 48, 49, 50, 51, 52, 53, 54, 55] (by decide +kernel) (by decide +kernel)
set_option maxRecDepth 20000 in
theorem gX9_pollen_X9_isLot : GoodIn wsX9_pollen (wsV RX9 160 RX9 yX9_isLot wsX9_isLot) := goodIn_app (goodIn_of _ (by decide +kernel)) ggX9_pollen_X9_isLot
set_option maxRecDepth 20000 in
theorem ggX9_test_X9_isLot : GoodIn wsX9_test wsX9_isLot := goodIn_r _ [7, 8, 18, 19, 20, 21, 22, 23, 24, 25, 26, 27, 28, 29, 30, 31, 32, 33, 34, 35, 36, 37, 38, 39, 40, 41, 42, 43, 44, 45, 46, 47, 48, 49, 50, 51, 52, 53, 54, 55, 56, 57, 58, 59, 60, 61] (by decide +kernel) (by decide +kernel)
set_option maxRecDepth 20000 in
theorem gX9_test_X9_isLot : GoodIn wsX9_test (wsV RX9 160 RX9 yX9_isLot wsX9_isLot) := goodIn_app (goodIn_of _ (by decide +kernel)) ggX9_test_X9_isLot
set_option maxRecDepth 20000 in
theorem ggX9_of_X9_isLot : GoodIn wsX9_of wsX9_isLot := goodIn_r _ [6, 7, 11, 12, 13, 14, 15, 16, 17, 18, 19, 20, 21, 22, 23, 24, 25, 26, 27, 28, 29, 30, 31, 32, 33, 34, 35, 36, 37, 38, 39, 40, 41, 42, 43, 44, 45, 46, 47, 48, 49, 50, 51, 52, 53, 54] (by decide +kernel) (by decide +kernel)
set_option maxRecDepth 20000 in
theorem gX9_of_X9_isLot : GoodIn wsX9_of (wsV RX9 160 RX9 yX9_isLot wsX9_isLot) := goodIn_app (goodIn_of _ (by decide +kernel)) ggX9_of_X9_isLot
set_option maxRecDepth 20000 in
theorem ggX9_span_X9_isLot : GoodIn wsX9_span wsX9_isLot := goodIn_r _ [7, 8, 12, 13, 14, 15, 16, 17, 18, 19, 20, 21, 22, 23, 24, 25, 26, 27, 28, 29, 30, 31, 32, 33, 34, 35, 36, 37, 38, 39, 40, 41, 42, 43, 44, 45, 46, 47, 48, 49, 50, 51, 52, 53, 54, 55] (by decide +kernel) (by decide +kernel)
set_option maxRecDepth 20000 in
theorem gX9_span_X9_isLot : GoodIn wsX9_span (wsV RX9 160 RX9 yX9_isLot wsX9_isLot) := goodIn_app (goodIn_of _ (by decide +kernel)) ggX9_span_X9_isLot
set_option maxRecDepth 20000 in
theorem ggX9_trace_X9_isLot : GoodIn wsX9_trace wsX9_isLot := goodIn_r _ [9, 10, 11, 12, 13, 14, 15, 16, 17, 18, 19, 20, 21, 22, 23, 24, 25, 26, 27, 28, 29, 30, 31, 32, 33, 34, 35, 36, 37, 38, 39, 40, 41, 42, 43, 44, 45, 46, 47, 48, 49, 50, 51, 52, 53, 54] (by decide +kernel) (by decide +kernel)
set_option maxRecDepth 20000 in
theorem gX9_trace_X9_isLot : GoodIn wsX9_trace (wsV RX9 160 RX9 yX9_isLot wsX9_isLot) := goodIn_app (goodIn_of _ (by decide +kernel)) ggX9_trace_X9_isLot
set_option maxRecDepth 20000 in
theorem ggX9_pour_X9_isLot : GoodIn wsX9_pour wsX9_isLot := goodIn_r _ [8, 9, 17, 18, 19, 20, 21, 22, 23, 24, 25, 26, 27, 28, 29, 30, 31, 32, 33, 34, 35, 36, 37, 38, 39, 40, 41, 42, 43, 44, 45, 46, 47, 48, 49, 50, 51, 52, 53, 54, 55, 56, 57, 58, 59, 60] (by decide +kernel) (by decide +kernel)
set_option maxRecDepth 20000 in
theorem gX9_pour_X9_isLot : GoodIn wsX9_pour (wsV RX9 160 RX9 yX9_isLot wsX9_isLot) := goodIn_app (goodIn_of _ (by decide +kernel)) ggX9_pour_X9_isLot
set_option maxRecDepth 20000 in
theorem ggX9_move_X9_isTank : GoodIn wsX9_move wsX9_isTank := goodIn_r _ [9] (by decide +kernel) (by decide +kernel)
set_option maxRecDepth 20000 in
theorem gX9_move_X9_isTank : GoodIn wsX9_move (va_wsS RX9 165 yX9_isTank wsX9_isTank) := goodIn_app (goodIn_of _ (by decide +kernel)) ggX9_move_X9_isTank
set_option maxRecDepth 20000 in
theorem ggX9_move_X9_all : GoodIn wsX9_move wsX9_all := goodIn_r _ [13, 3, 4, 20, 21, 22, 23, 24, 25, 26, 27, 28, 29, 30, 31, 32, 33, 34, 35, 36, 37, 38, 39, 40, 41, 42, 43, 44, 45, 46, 47, 48, 49, 50, 51, 52, 53, 54, 55, 56, 57, 58, 59, 60, 61, 62, 63] (by decide +kernel) (by decide +kernel)
set_option maxRecDepth 20000 in
theorem gX9_move_X9_all : GoodIn wsX9_move (wsV RX9 169 RX9 yX9_all wsX9_all) := goodIn_app (goodIn_of _ (by decide +kernel)) ggX9_move_X9_all
set_option maxRecDepth 20000 in
theorem ggX9_warm_X9_isTank : GoodIn wsX9_warm wsX9_isTank := goodIn_r _ [5] (by decide +kernel) (by decide +kernel)
set_option maxRecDepth 20000 in
theorem gX9_warm_X9_isTank : GoodIn wsX9_warm (va_wsS RX9 165 yX9_isTank wsX9_isTank) := goodIn_app (goodIn_of _ (by decide +kernel)) ggX9_warm_X9_isTank
set_option maxRecDepth 20000 in
theorem ggX9_warm_X9_all : GoodIn wsX9_warm wsX9_all := goodIn_r _ [9, 10, 11, 15, 16, 17, 18, 19, 20, 21, 22, 23, 24, 25, 26, 27, 28, 29, 30, 31, 32, 33, 34, 35, 36, 37, 38, 39, 40, 41, 42, 43, 44, 45, 46, 47, 48, 49, 50, 51, 52, 53, 54, 55, 56, 57, 58] (by decide +kernel) (by decide +kernel)
set_option maxRecDepth 20000 in
theorem gX9_warm_X9_all : GoodIn wsX9_warm (wsV RX9 169 RX9 yX9_all wsX9_all) := goodIn_app (goodIn_of _ (by decide +kernel)) ggX9_warm_X9_all
set_option maxRecDepth 20000 in
theorem ggX9_jar_X9_isTank : GoodIn wsX9_jar wsX9_isTank := goodIn_r _ [12] (by decide +kernel) (by decide +kernel)
set_option maxRecDepth 20000 in
theorem gX9_jar_X9_isTank : GoodIn wsX9_jar (va_wsS RX9 165 yX9_isTank wsX9_isTank) := goodIn_app (goodIn_of _ (by decide +kernel)) ggX9_jar_X9_isTank
set_option maxRecDepth 20000 in
theorem ggX9_jar_X9_all : GoodIn wsX9_jar wsX9_all := goodIn_r _ [16, 7, 6, 23, 24, 25, 26, 27, 28, 29, 30, 31, 32, 33, 34, 35, 36, 37, 38, 39, 40, 41, 42, 43, 44, 45, 46, 47, 48, 49, 50, 51, 52, 53, 54, 55, 56, 57, 58, 59, 60, 61, 62, 63, 64, 65, 66] (by decide +kernel) (by decide +kernel)
set_option maxRecDepth 20000 in
theorem gX9_jar_X9_all : GoodIn wsX9_jar (wsV RX9 169 RX9 yX9_all wsX9_all) := goodIn_app (goodIn_of _ (by decide +kernel)) ggX9_jar_X9_all
set_option maxRecDepth 20000 in
theorem ggX9_spill_X9_isTank : GoodIn wsX9_spill wsX9_isTank := goodIn_r _ [4] (by decide +kernel) (by decide +kernel)
set_option maxRecDepth 20000 in
theorem gX9_spill_X9_isTank : GoodIn wsX9_spill (va_wsS RX9 165 yX9_isTank wsX9_isTank) := goodIn_app (goodIn_of _ (by decide +kernel)) ggX9_spill_X9_isTank
set_option maxRecDepth 20000 in
theorem ggX9_spill_X9_all : GoodIn wsX9_spill wsX9_all := goodIn_r _ [8, 9, 10, 19, 20, 21, 22, 23, 24, 25, 26, 27, 28, 29, 30, 31, 32, 33, 34, 35, 36, 37, 38, 39, 40, 41, 42, 43, 44, 45, 46, 47, 48, 49, 50, 51, 52, 53, 54, 55, 56, 57, 58, 59, 60, 61, 62] (by decide +kernel) (by decide +kernel)
set_option maxRecDepth 20000 in
theorem gX9_spill_X9_all : GoodIn wsX9_spill (wsV RX9 169 RX9 yX9_all wsX9_all) := goodIn_app (goodIn_of _ (by decide +kernel)) ggX9_spill_X9_all
set_option maxRecDepth 20000 in
theorem ggX9_holds_X9_row : GoodIn wsX9_holds wsX9_row := goodIn_r _ [10, 11, 12, 13, 9, 14, 19, 20, 21, 22, 23, 24, 25, 26, 27, 28, 29, 30, 31, 32, 33, 34, 35, 36, 37, 38, 39, 40, 41, 42, 43, 44, 45, 46, 47, 48, 49, 50, 51, 52, 53, 54, 55, 56, 57, 58, 59, 60, 61, 62] (by decide +kernel) (by decide +kernel)
set_option maxRecDepth 20000 in
theorem gX9_holds_X9_row : GoodIn wsX9_holds (wsV RX9 179 RX9 yX9_row wsX9_row) := goodIn_app (goodIn_of _ (by decide +kernel)) ggX9_holds_X9_row
set_option maxRecDepth 20000 in
theorem ggX9_holds_X9_all : GoodIn wsX9_holds wsX9_all := goodIn_r _ [18, 1, 2, 19, 20, 21, 22, 23, 24, 25, 26, 27, 28, 29, 30, 31, 32, 33, 34, 35, 36, 37, 38, 39, 40, 41, 42, 43, 44, 45, 46, 47, 48, 49, 50, 51, 52, 53, 54, 55, 56, 57, 58, 59, 60, 61, 62] (by decide +kernel) (by decide +kernel)
set_option maxRecDepth 20000 in
theorem gX9_holds_X9_all : GoodIn wsX9_holds (wsV RX9 169 RX9 yX9_all wsX9_all) := goodIn_app (goodIn_of _ (by decide +kernel)) ggX9_holds_X9_all
set_option maxRecDepth 20000 in
theorem ggX9_part_X9_row : GoodIn wsX9_part wsX9_row := goodIn_r _ [6, 7, 8, 9, 5, 10, 16, 17, 18, 19, 20, 21, 22, 23, 24, 25, 26, 27, 28, 29, 30, 31, 32, 33, 34, 35, 36, 37, 38, 39, 40, 41, 42, 43, 44, 45, 46, 47, 48, 49, 50, 51, 52, 53, 54, 55, 56, 57, 58, 59] (by decide +kernel) (by decide +kernel)
set_option maxRecDepth 20000 in
theorem gX9_part_X9_row : GoodIn wsX9_part (wsV RX9 179 RX9 yX9_row wsX9_row) := goodIn_app (goodIn_of _ (by decide +kernel)) ggX9_part_X9_row
set_option maxRecDepth 20000 in
theorem ggX9_part_X9_isLot : GoodIn wsX9_part wsX9_isLot := goodIn_r _ [14, 15, 16, 17, 18, 19, 20, 21, 22, 23, 24, 25, 26, 27, 28, 29, 30, 31, 32, 33, 34, 35, 36, 37, 38, 39, 40, 41, 42, 43, 44, 45, 46, 47, 48, 49, 50, 51, 52, 53, 54, 55, 56, 57, 58, 59] (by decide +kernel) (by decide +kernel)
set_option maxRecDepth 20000 in
theorem gX9_part_X9_isLot : GoodIn wsX9_part (wsV RX9 160 RX9 yX9_isLot wsX9_isLot) := goodIn_app (goodIn_of _ (by decide +kernel)) ggX9_part_X9_isLot
set_option maxRecDepth 20000 in
theorem ggX9_isMeasure_X9_is : GoodIn wsX9_isMeasure wsX9_is := goodIn_r _ [4] (by decide +kernel) (by decide +kernel)
set_option maxRecDepth 20000 in
theorem gX9_isMeasure_X9_is : GoodIn wsX9_isMeasure (va_wsS RX9 151 yX9_is wsX9_is) := goodIn_app (goodIn_of _ (by decide +kernel)) ggX9_isMeasure_X9_is
set_option maxRecDepth 20000 in
theorem ggX9_measure_X9_row : GoodIn wsX9_measure wsX9_row := goodIn_r _ [7, 8, 9, 10, 6, 11, 31, 32, 33, 34, 35, 36, 37, 38, 39, 40, 41, 42, 43, 44, 45, 46, 47, 48, 49, 50, 51, 52, 53, 54, 55, 56, 57, 58, 59, 60, 61, 62, 63, 64, 65, 66, 67, 68, 69, 70, 71, 72, 73, 74] (by decide +kernel) (by decide +kernel)
set_option maxRecDepth 20000 in
theorem gX9_measure_X9_row : GoodIn wsX9_measure (wsV RX9 179 RX9 yX9_row wsX9_row) := goodIn_app (goodIn_of _ (by decide +kernel)) ggX9_measure_X9_row
set_option maxRecDepth 20000 in
theorem ggX9_measure_X9_all : GoodIn wsX9_measure wsX9_all := goodIn_r _ [15, 16, 17, 31, 32, 33, 34, 35, 36, 37, 38, 39, 40, 41, 42, 43, 44, 45, 46, 47, 48, 49, 50, 51, 52, 53, 54, 55, 56, 57, 58, 59, 60, 61, 62, 63, 64, 65, 66, 67, 68, 69, 70, 71, 72, 73, 74] (by decide +kernel) (by decide +kernel)
set_option maxRecDepth 20000 in
theorem gX9_measure_X9_all : GoodIn wsX9_measure (wsV RX9 169 RX9 yX9_all wsX9_all) := goodIn_app (goodIn_of _ (by decide +kernel)) ggX9_measure_X9_all
set_option maxRecDepth 20000 in
theorem ggX9_says_X9_row : GoodIn wsX9_says wsX9_row := goodIn_r _ [6, 7, 8, 9, 5, 10, 36, 37, 38, 39, 40, 41, 42, 43, 44, 45, 46, 47, 48, 49, 50, 51, 52, 53, 54, 55, 56, 57, 58, 59, 60, 61, 62, 63, 64, 65, 66, 67, 68, 69, 70, 71, 72, 73, 74, 75, 76, 77, 78, 79] (by decide +kernel) (by decide +kernel)
set_option maxRecDepth 20000 in
theorem gX9_says_X9_row : GoodIn wsX9_says (wsV RX9 179 RX9 yX9_row wsX9_row) := goodIn_app (goodIn_of _ (by decide +kernel)) ggX9_says_X9_row
set_option maxRecDepth 20000 in
theorem ggX9_name__X9_row : GoodIn wsX9_name_ wsX9_row := goodIn_r _ [6, 7, 8, 9, 5, 10, 48, 49, 50, 51, 52, 53, 54, 55, 56, 57, 58, 59, 60, 61, 62, 63, 64, 65, 66, 67, 68, 69, 70, 71, 72, 73, 74, 75, 76, 77, 78, 79, 80, 81, 82, 83, 84, 85, 86, 87, 88, 89, 90, 91] (by decide +kernel) (by decide +kernel)
set_option maxRecDepth 20000 in
theorem gX9_name__X9_row : GoodIn wsX9_name_ (wsV RX9 179 RX9 yX9_row wsX9_row) := goodIn_app (goodIn_of _ (by decide +kernel)) ggX9_name__X9_row
set_option maxRecDepth 20000 in
theorem ggX9_name__X9_all : GoodIn wsX9_name_ wsX9_all := goodIn_r _ [14, 15, 16, 48, 49, 50, 51, 52, 53, 54, 55, 56, 57, 58, 59, 60, 61, 62, 63, 64, 65, 66, 67, 68, 69, 70, 71, 72, 73, 74, 75, 76, 77, 78, 79, 80, 81, 82, 83, 84, 85, 86, 87, 88, 89, 90, 91] (by decide +kernel) (by decide +kernel)
set_option maxRecDepth 20000 in
theorem gX9_name__X9_all : GoodIn wsX9_name_ (wsV RX9 169 RX9 yX9_all wsX9_all) := goodIn_app (goodIn_of _ (by decide +kernel)) ggX9_name__X9_all
set_option maxRecDepth 20000 in
theorem ggX9_paid_X9_is : GoodIn wsX9_paid wsX9_is := goodIn_r _ [7] (by decide +kernel) (by decide +kernel)
set_option maxRecDepth 20000 in
theorem gX9_paid_X9_is : GoodIn wsX9_paid (va_wsS RX9 151 yX9_is wsX9_is) := goodIn_app (goodIn_of _ (by decide +kernel)) ggX9_paid_X9_is
set_option maxRecDepth 20000 in
theorem ggX9_whose_X9_is : GoodIn wsX9_whose wsX9_is := goodIn_r _ [9] (by decide +kernel) (by decide +kernel)
set_option maxRecDepth 20000 in
theorem gX9_whose_X9_is : GoodIn wsX9_whose (va_wsS RX9 151 yX9_is wsX9_is) := goodIn_app (goodIn_of _ (by decide +kernel)) ggX9_whose_X9_is
set_option maxRecDepth 20000 in
theorem ggX9_blend_X9_is : GoodIn wsX9_blend wsX9_is := goodIn_r _ [15] (by decide +kernel) (by decide +kernel)
set_option maxRecDepth 20000 in
theorem gX9_blend_X9_is : GoodIn wsX9_blend (va_wsS RX9 151 yX9_is wsX9_is) := goodIn_app (goodIn_of _ (by decide +kernel)) ggX9_blend_X9_is
set_option maxRecDepth 20000 in
theorem ggX9_blend_X9_all : GoodIn wsX9_blend wsX9_all := goodIn_r _ [19, 20, 21, 29, 30, 31, 32, 33, 34, 35, 36, 37, 38, 39, 40, 41, 42, 43, 44, 45, 46, 47, 48, 49, 50, 51, 52, 53, 54, 55, 56, 57, 58, 59, 60, 61, 62, 63, 64, 65, 66, 67, 68, 69, 70, 71, 72] (by decide +kernel) (by decide +kernel)
set_option maxRecDepth 20000 in
theorem gX9_blend_X9_all : GoodIn wsX9_blend (wsV RX9 169 RX9 yX9_all wsX9_all) := goodIn_app (goodIn_of _ (by decide +kernel)) ggX9_blend_X9_all
theorem i_ge0 {n : Int32} (a : ¬ n < 0) : ¬ n < 0 := a
theorem i_gt0 {g : Int32} (a : ¬ g < 1) : 0 < g := by
  rw [i_lt] at a
  rw [i_lt]
  have h0 : (0 : Int32).toInt = 0 := by decide
  have h1 : (1 : Int32).toInt = 1 := by decide
  rw [h0]; rw [h1] at a
  omega
set_option maxHeartbeats 4000000 in
set_option maxRecDepth 100000 in
theorem s_X9_isLot (l : Launch) (D : va_G) (ws : va_W) (tys : List (ClassId × FieldType)) (h0 k0 : Nat) (fs : List Value) (a1 : Int32) (e0 : ws[k0]? = some (h0, .inr (9, fs))) (f3 : fs[3]? = some (.int 0)) : Met l yX9_isLot wsX9_isLot ({ frames := 0, cells := 0, slots := 0, locals := 0 }) (va_Pc [.ref h0, .int a1] (fun U => va_P D vwCl ws U.heap ∧ va_K D vwCl tys U)) (vp_Si (fun r => r = 0)) 0 0 (fun _ => False) := by
  refine Met.ofW (cc := cX9_isLot) (maxL := 2) (ret := (some .boolean)) (by decide) rfl ?_
  intro p e s m args below meth c s₁ B hml hv
  obtain ⟨rfl, hP, hK⟩ := hv
  have hx := B.exec
  have hb := B.bytes
  have hr := B.returns
  have hts := atoms_spec (ws := wsX9_isLot) B.pre
  have hown : s.vm.findClass RX9 = some m.cls := findClass_of_methodNamed B.named
  have hlocks := B.notSynchronized
  have hin9 : ∀ w ∈ u_ws RX9 TX9 44, w ∈ wsX9_isLot := (fun _ h9 => List.mem_cons_of_mem _ ((List.mem_append_right _ h9)))
  have hl := lv_entry ([.ref h0, .int a1]) (n := 2) (Nat.le_of_ble_eq_true rfl)
  rw [lg_entry_eq]
  generalize (lg_sl ([.ref h0, .int a1]) ++ List.replicate (2 - (lg_sl ([.ref h0, .int a1])).length) Slot.unset).toArray = ls at hl ⊢
  have hl : lv_has ls 2 [(0, .ref h0), (1, .int a1)] := hl
  refine lv_iload_n hx hb dX9_isLot_0 rfl (lv_at hl 1 rfl) ?_
  refine lv_if_lt (tgt := 16) hx hb dX9_isLot_1 (by decide) (fun c_1 => ?_) (fun c_1 => ?_)
  · refine lv_iconst (v := 0) hx hb dX9_isLot_16 (by decide) ?_
    exact W.zret (v := 0) hx hb hr rfl (fun t ht hW => ⟨0, rfl, rfl, ht⟩) (fun _ h9 => by cases h9) dX9_isLot_17
  refine lv_iload_n hx hb dX9_isLot_4 rfl (lv_at hl 1 rfl) ?_
  refine lv_aload_n hx hb dX9_isLot_5 rfl (lv_at hl 0 rfl) ?_
  refine va_get (D := D) (ci := 9) (v := .int 0) (C := RX9) (T := TX9) (N := 44) hx hb hts hin9 hown hK hP k0 e0 rfl 3 (by decide) (hts (.fieldLink RX9 20 "HoneyHouseModel" "lots" "I") (List.mem_of_getElem? (i := 1) rfl)) (fun _ h9 => h9) f3 dX9_isLot_6 ?_
  refine lv_icmp_ge (tgt := 16) hx hb dX9_isLot_9 (by decide) (fun c_2 => ?_) (fun c_2 => absurd (i_nlt c_1) c_2)
  refine lv_iconst (v := 0) hx hb dX9_isLot_16 (by decide) ?_
  exact W.zret (v := 0) hx hb hr rfl (fun t ht hW => ⟨0, rfl, rfl, ht⟩) (fun _ h9 => by cases h9) dX9_isLot_17
set_option maxHeartbeats 4000000 in
set_option maxRecDepth 100000 in
theorem s_X9_all (l : Launch) (D : va_G) (ws : va_W) (tys : List (ClassId × FieldType)) (h0 k0 : Nat) (fs : List Value) (a1 : Int32) (e0 : ws[k0]? = some (h0, .inr (9, fs))) (f3 : fs[3]? = some (.int 0)) : Met l yX9_all wsX9_all ({ frames := 0, cells := 0, slots := 0, locals := 0 }) (va_Pc [.ref h0, .int a1] (fun U => va_P D vwCl ws U.heap ∧ va_K D vwCl tys U)) (vp_Si (fun r => r = 0)) 0 0 (fun _ => False) := by
  refine Met.ofW (cc := cX9_all) (maxL := 4) (ret := (some .int)) (by decide) rfl ?_
  intro p e s m args below meth c s₁ B hml hv
  obtain ⟨rfl, hP, hK⟩ := hv
  have hx := B.exec
  have hb := B.bytes
  have hr := B.returns
  have hts := atoms_spec (ws := wsX9_all) B.pre
  have hown : s.vm.findClass RX9 = some m.cls := findClass_of_methodNamed B.named
  have hlocks := B.notSynchronized
  have hin9 : ∀ w ∈ u_ws RX9 TX9 44, w ∈ wsX9_all := (fun _ h9 => List.mem_cons_of_mem _ ((List.mem_append_right _ h9)))
  have hl := lv_entry ([.ref h0, .int a1]) (n := 4) (Nat.le_of_ble_eq_true rfl)
  rw [lg_entry_eq]
  generalize (lg_sl ([.ref h0, .int a1]) ++ List.replicate (4 - (lg_sl ([.ref h0, .int a1])).length) Slot.unset).toArray = ls at hl ⊢
  have hl : lv_has ls 4 [(0, .ref h0), (1, .int a1)] := hl
  refine lv_iconst (v := 0) hx hb dX9_all_0 (by decide) ?_
  refine lv_istore_n (lv' := [(2, .int 0), (0, .ref h0), (1, .int a1)]) hx hb dX9_all_1 rfl hl (by decide) rfl (fun ls hl => ?_)
  refine lv_iconst (v := 0) hx hb dX9_all_2 (by decide) ?_
  refine lv_istore_n (lv' := [(3, .int 0), (2, .int 0), (0, .ref h0), (1, .int a1)]) hx hb dX9_all_3 rfl hl (by decide) rfl (fun ls hl => ?_)
  refine lv_iload_n hx hb dX9_all_4 rfl (lv_at hl 0 rfl) ?_
  refine lv_aload_n hx hb dX9_all_5 rfl (lv_at hl 2 rfl) ?_
  refine va_get (D := D) (ci := 9) (v := .int 0) (C := RX9) (T := TX9) (N := 44) hx hb hts hin9 hown hK hP k0 e0 rfl 3 (by decide) (hts (.fieldLink RX9 20 "HoneyHouseModel" "lots" "I") (List.mem_of_getElem? (i := 1) rfl)) (fun _ h9 => h9) f3 dX9_all_6 ?_
  refine lv_icmp_ge (tgt := 32) hx hb dX9_all_9 (by decide) (fun c_1 => ?_) (fun c_1 => absurd (by decide) c_1)
  refine lv_iload_n hx hb dX9_all_32 rfl (lv_at hl 1 rfl) ?_
  exact W.iret (v := 0) hx hb hr (fun t ht hW => ⟨0, rfl, rfl, ht⟩) (fun _ h9 => by cases h9) dX9_all_33
set_option maxHeartbeats 4000000 in
set_option maxRecDepth 100000 in
theorem s_X9_row (l : Launch) (D : va_G) (ws : va_W) (tys : List (ClassId × FieldType)) (h0 k0 : Nat) (fs : List Value) (a1 a2 : Int32) (e0 : ws[k0]? = some (h0, .inr (9, fs))) (f13 : fs[13]? = some (.int 0)) : Met l yX9_row wsX9_row ({ frames := 1, cells := 0, slots := 0, locals := 20 }) (va_Pc [.ref h0, .int a1, .int a2] (fun U => va_P D vwCl ws U.heap ∧ va_K D vwCl tys U)) (vp_Si (fun r => (r = (-1) ∧ (¬ a1 = 0 ∨ a2 < 0 ∨ 9 < a2)) ∨ (a1 = 0 ∧ ¬ a2 < 0 ∧ ¬ 9 < a2 ∧ r = a2))) 0 0 (fun _ => False) := by
  refine Met.ofW (cc := cX9_row) (maxL := 3) (ret := (some .int)) (by decide) rfl ?_
  intro p e s m args below meth c s₁ B hml hv
  obtain ⟨rfl, hP, hK⟩ := hv
  have hx := B.exec
  have hb := B.bytes
  have hr := B.returns
  have hts := atoms_spec (ws := wsX9_row) B.pre
  have hown : s.vm.findClass RX9 = some m.cls := findClass_of_methodNamed B.named
  have hlocks := B.notSynchronized
  have hin9 : ∀ w ∈ u_ws RX9 TX9 44, w ∈ wsX9_row := (fun _ h9 => List.mem_cons_of_mem _ ((List.mem_append_right _ h9)))
  have hl := lv_entry ([.ref h0, .int a1, .int a2]) (n := 3) (Nat.le_of_ble_eq_true rfl)
  rw [lg_entry_eq]
  generalize (lg_sl ([.ref h0, .int a1, .int a2]) ++ List.replicate (3 - (lg_sl ([.ref h0, .int a1, .int a2])).length) Slot.unset).toArray = ls at hl ⊢
  have hl : lv_has ls 3 [(0, .ref h0), (1, .int a1), (2, .int a2)] := hl
  refine lv_iload_n hx hb dX9_row_0 rfl (lv_at hl 1 rfl) ?_
  refine lv_if_ne (tgt := 17) hx hb dX9_row_1 (by decide) (fun c_1 => ?_) (fun c_1 => ?_)
  · refine lv_iload_n hx hb dX9_row_17 rfl (lv_at hl 1 rfl) ?_
    refine lv_iconst (v := 1) hx hb dX9_row_18 (by decide) ?_
    refine lv_icmp_ne (tgt := 41) hx hb dX9_row_19 (by decide) (fun c_2 => ?_) (fun c_2 => ?_)
    · refine lv_iconst (v := (-1)) hx hb dX9_row_41 (by decide) ?_
      exact W.iret (v := (-1)) hx hb hr (fun t ht hW => ⟨(-1), rfl, (by simp_all), ht⟩) (fun _ h9 => by cases h9) dX9_row_42
    refine lv_iload_n hx hb dX9_row_22 rfl (lv_at hl 2 rfl) ?_
    refine lv_if_lt (tgt := 41) hx hb dX9_row_23 (by decide) (fun c_3 => ?_) (fun c_3 => ?_)
    · refine lv_iconst (v := (-1)) hx hb dX9_row_41 (by decide) ?_
      exact W.iret (v := (-1)) hx hb hr (fun t ht hW => ⟨(-1), rfl, (by simp_all), ht⟩) (fun _ h9 => by cases h9) dX9_row_42
    refine lv_iload_n hx hb dX9_row_26 rfl (lv_at hl 2 rfl) ?_
    refine lv_aload_n hx hb dX9_row_27 rfl (lv_at hl 0 rfl) ?_
    refine va_get (D := D) (ci := 9) (v := .int 0) (C := RX9) (T := TX9) (N := 44) hx hb hts hin9 hown hK hP k0 e0 rfl 13 (by decide) (hts (.fieldLink RX9 50 "HoneyHouseModel" "batches" "I") (List.mem_of_getElem? (i := 1) rfl)) (fun _ h9 => h9) f13 dX9_row_28 ?_
    refine lv_icmp_ge (tgt := 41) hx hb dX9_row_31 (by decide) (fun c_4 => ?_) (fun c_4 => absurd (i_nlt c_3) c_4)
    refine lv_iconst (v := (-1)) hx hb dX9_row_41 (by decide) ?_
    exact W.iret (v := (-1)) hx hb hr (fun t ht hW => ⟨(-1), rfl, (by simp_all), ht⟩) (fun _ h9 => by cases h9) dX9_row_42
  refine lv_iload_n hx hb dX9_row_4 rfl (lv_at hl 2 rfl) ?_
  refine vp_callSi (W.runS (As := [.int a2]) (rest := []) ⟨hx, hb, hml, hown, hts⟩ (s_X9_isTank l a2) (va_cwS 1 hts gX9_row_X9_isTank rfl rfl rfl (by decide +kernel) ⟨Nat.le_of_ble_eq_true rfl, Nat.le_of_ble_eq_true rfl⟩) ⟨fun a U g mk q => q, fun U hU hW => ⟨rfl, trivial⟩⟩ rfl rfl hl.1 rfl (lv_room (Nat.le_of_ble_eq_true rfl)) dX9_row_5 ⟨Nat.le_of_ble_eq_true rfl, Nat.le_of_ble_eq_true rfl⟩) (fun r_5 k_6 => ?_)
  rcases k_6 with ⟨rfl, a_7o⟩ | ⟨rfl, a_7, b_8⟩
  · refine lv_if_eq (tgt := 15) hx hb dX9_row_8 (by decide) (fun c_9 => ?_) (fun c_9 => absurd (by decide) c_9)
    refine lv_iconst (v := (-1)) hx hb dX9_row_15 (by decide) ?_
    exact W.iret (v := (-1)) hx hb hr (fun t ht hW => ⟨(-1), rfl, (by rcases a_7o with a_7o | a_7o <;> simp_all), ht⟩) (fun _ h9 => by cases h9) dX9_row_16
  refine lv_if_eq (tgt := 15) hx hb dX9_row_8 (by decide) (fun c_10 => absurd c_10 (by decide)) (fun c_10 => ?_)
  refine lv_iload_n hx hb dX9_row_11 rfl (lv_at hl 2 rfl) ?_
  refine lv_goto (tgt := 16) hx hb dX9_row_12 (by decide) ?_
  exact W.iret (v := a2) hx hb hr (fun t ht hW => ⟨a2, rfl, (by simp_all), ht⟩) (fun _ h9 => by cases h9) dX9_row_16
set_option maxHeartbeats 4000000 in
set_option maxRecDepth 100000 in
theorem s_X9_pollen (l : Launch) (D : va_G) (ws : va_W) (tys : List (ClassId × FieldType)) (h0 : Nat) (X : MF ws tys h0) (a1 a2 a3 a4 : Int32) : Met l yX9_pollen wsX9_pollen ({ frames := 1, cells := 0, slots := 0, locals := 21 }) (va_Pc [.ref h0, .int a1, .int a2, .int a3, .int a4] (fun U => va_P D vwCl ws U.heap ∧ va_K D vwCl tys U)) (vp_Si (fun r => r = 0)) 0 0 (fun _ => False) := by
  refine Met.ofW (cc := cX9_pollen) (maxL := 8) (ret := (some .boolean)) (by decide) rfl ?_
  intro p e s m args below meth c s₁ B hml hv
  obtain ⟨rfl, hP, hK⟩ := hv
  have hx := B.exec
  have hb := B.bytes
  have hr := B.returns
  have hts := atoms_spec (ws := wsX9_pollen) B.pre
  have hown : s.vm.findClass RX9 = some m.cls := findClass_of_methodNamed B.named
  have hlocks := B.notSynchronized
  have hl := lv_entry ([.ref h0, .int a1, .int a2, .int a3, .int a4]) (n := 8) (Nat.le_of_ble_eq_true rfl)
  rw [lg_entry_eq]
  generalize (lg_sl ([.ref h0, .int a1, .int a2, .int a3, .int a4]) ++ List.replicate (8 - (lg_sl ([.ref h0, .int a1, .int a2, .int a3, .int a4])).length) Slot.unset).toArray = ls at hl ⊢
  have hl : lv_has ls 8 [(0, .ref h0), (1, .int a1), (2, .int a2), (3, .int a3), (4, .int a4)] := hl
  have X0 := X
  obtain ⟨k0, ah, ar, ap, kh, kr, kp, fs, ch, cr, cp, th, tr, tp, e0, f2, f3, f13, f14, f21, f22, f35, f43, f10, f11, f12, eh, uh, er, ur, ep, up⟩ := X
  refine lv_aload_n hx hb dX9_pollen_0 rfl (lv_at hl 0 rfl) ?_
  refine lv_iload_n hx hb dX9_pollen_1 rfl (lv_at hl 1 rfl) ?_
  refine vp_callSi (W.runV (As := [.int a1]) (rest := []) ⟨hx, hb, hml, hown, hts⟩ (s_X9_isLot l D ws tys h0 k0 _ a1 e0 f3) (cwV 1 hts gX9_pollen_X9_isLot rfl rfl rfl (by decide +kernel) ⟨Nat.le_of_ble_eq_true rfl, Nat.le_of_ble_eq_true rfl⟩) ⟨fun a U g mk q => ⟨q.1, q.2.1, va_K.moved (u := U) (U := U.calling g mk a) (Vm.Alike.refl U.vm) q.2.2⟩, va_recv hK hP (ci := 9) (q0 := k0) rfl e0, fun U hU hW => ⟨rfl, by rw [hU]; exact hP, va_K.moved hW.alike hK⟩⟩ rfl rfl hl.1 rfl (lv_room (Nat.le_of_ble_eq_true rfl)) dX9_pollen_2 ⟨Nat.le_of_ble_eq_true rfl, Nat.le_of_ble_eq_true rfl⟩) (fun r_1 k_2 => ?_)
  subst k_2
  refine lv_if_eq (tgt := 35) hx hb dX9_pollen_5 (by decide) (fun c_3 => ?_) (fun c_3 => absurd (by decide) c_3)
  refine lv_iconst (v := 0) hx hb dX9_pollen_35 (by decide) ?_
  exact W.zret (v := 0) hx hb hr rfl (fun t ht hW => ⟨0, rfl, (by first | rfl | (simp_all; done) | simp [c_3]), ht⟩) (fun _ h9 => by cases h9) dX9_pollen_36
set_option maxHeartbeats 4000000 in
set_option maxRecDepth 100000 in
theorem s_X9_test (l : Launch) (D : va_G) (ws : va_W) (tys : List (ClassId × FieldType)) (h0 : Nat) (X : MF ws tys h0) (a1 a2 : Int32) : Met l yX9_test wsX9_test ({ frames := 1, cells := 0, slots := 0, locals := 21 }) (va_Pc [.ref h0, .int a1, .int a2] (fun U => va_P D vwCl ws U.heap ∧ va_K D vwCl tys U)) (vp_Si (fun r => r = (-1000000000))) 0 0 (fun _ => False) := by
  refine Met.ofW (cc := cX9_test) (maxL := 4) (ret := (some .int)) (by decide) rfl ?_
  intro p e s m args below meth c s₁ B hml hv
  obtain ⟨rfl, hP, hK⟩ := hv
  have hx := B.exec
  have hb := B.bytes
  have hr := B.returns
  have hts := atoms_spec (ws := wsX9_test) B.pre
  have hown : s.vm.findClass RX9 = some m.cls := findClass_of_methodNamed B.named
  have hlocks := B.notSynchronized
  have hl := lv_entry ([.ref h0, .int a1, .int a2]) (n := 4) (Nat.le_of_ble_eq_true rfl)
  rw [lg_entry_eq]
  generalize (lg_sl ([.ref h0, .int a1, .int a2]) ++ List.replicate (4 - (lg_sl ([.ref h0, .int a1, .int a2])).length) Slot.unset).toArray = ls at hl ⊢
  have hl : lv_has ls 4 [(0, .ref h0), (1, .int a1), (2, .int a2)] := hl
  have X0 := X
  obtain ⟨k0, ah, ar, ap, kh, kr, kp, fs, ch, cr, cp, th, tr, tp, e0, f2, f3, f13, f14, f21, f22, f35, f43, f10, f11, f12, eh, uh, er, ur, ep, up⟩ := X
  refine lv_aload_n hx hb dX9_test_0 rfl (lv_at hl 0 rfl) ?_
  refine lv_iload_n hx hb dX9_test_1 rfl (lv_at hl 1 rfl) ?_
  refine vp_callSi (W.runV (As := [.int a1]) (rest := []) ⟨hx, hb, hml, hown, hts⟩ (s_X9_isLot l D ws tys h0 k0 _ a1 e0 f3) (cwV 1 hts gX9_test_X9_isLot rfl rfl rfl (by decide +kernel) ⟨Nat.le_of_ble_eq_true rfl, Nat.le_of_ble_eq_true rfl⟩) ⟨fun a U g mk q => ⟨q.1, q.2.1, va_K.moved (u := U) (U := U.calling g mk a) (Vm.Alike.refl U.vm) q.2.2⟩, va_recv hK hP (ci := 9) (q0 := k0) rfl e0, fun U hU hW => ⟨rfl, by rw [hU]; exact hP, va_K.moved hW.alike hK⟩⟩ rfl rfl hl.1 rfl (lv_room (Nat.le_of_ble_eq_true rfl)) dX9_test_2 ⟨Nat.le_of_ble_eq_true rfl, Nat.le_of_ble_eq_true rfl⟩) (fun r_1 k_2 => ?_)
  subst k_2
  refine lv_if_eq (tgt := 20) hx hb dX9_test_5 (by decide) (fun c_3 => ?_) (fun c_3 => absurd (by decide) c_3)
  refine lv_ldc hx hb hown (hts (.constant RX9 164 (-1000000000)) (List.mem_of_getElem? (i := 1) rfl)) dX9_test_20 ?_
  exact W.iret (v := (-1000000000)) hx hb hr (fun t ht hW => ⟨(-1000000000), rfl, (by first | rfl | (simp_all; done) | simp [c_3]), ht⟩) (fun _ h9 => by cases h9) dX9_test_22
set_option maxHeartbeats 4000000 in
set_option maxRecDepth 100000 in
theorem s_X9_of (l : Launch) (D : va_G) (ws : va_W) (tys : List (ClassId × FieldType)) (h0 : Nat) (X : MF ws tys h0) (a1 a2 : Int32) : Met l yX9_of wsX9_of ({ frames := 1, cells := 0, slots := 0, locals := 21 }) (va_Pc [.ref h0, .int a1, .int a2] (fun U => va_P D vwCl ws U.heap ∧ va_K D vwCl tys U)) (vp_Si (fun r => r = (-1))) 0 0 (fun _ => False) := by
  refine Met.ofW (cc := cX9_of) (maxL := 3) (ret := (some .int)) (by decide) rfl ?_
  intro p e s m args below meth c s₁ B hml hv
  obtain ⟨rfl, hP, hK⟩ := hv
  have hx := B.exec
  have hb := B.bytes
  have hr := B.returns
  have hts := atoms_spec (ws := wsX9_of) B.pre
  have hown : s.vm.findClass RX9 = some m.cls := findClass_of_methodNamed B.named
  have hlocks := B.notSynchronized
  have hl := lv_entry ([.ref h0, .int a1, .int a2]) (n := 3) (Nat.le_of_ble_eq_true rfl)
  rw [lg_entry_eq]
  generalize (lg_sl ([.ref h0, .int a1, .int a2]) ++ List.replicate (3 - (lg_sl ([.ref h0, .int a1, .int a2])).length) Slot.unset).toArray = ls at hl ⊢
  have hl : lv_has ls 3 [(0, .ref h0), (1, .int a1), (2, .int a2)] := hl
  have X0 := X
  obtain ⟨k0, ah, ar, ap, kh, kr, kp, fs, ch, cr, cp, th, tr, tp, e0, f2, f3, f13, f14, f21, f22, f35, f43, f10, f11, f12, eh, uh, er, ur, ep, up⟩ := X
  refine lv_aload_n hx hb dX9_of_0 rfl (lv_at hl 0 rfl) ?_
  refine lv_iload_n hx hb dX9_of_1 rfl (lv_at hl 1 rfl) ?_
  refine vp_callSi (W.runV (As := [.int a1]) (rest := []) ⟨hx, hb, hml, hown, hts⟩ (s_X9_isLot l D ws tys h0 k0 _ a1 e0 f3) (cwV 1 hts gX9_of_X9_isLot rfl rfl rfl (by decide +kernel) ⟨Nat.le_of_ble_eq_true rfl, Nat.le_of_ble_eq_true rfl⟩) ⟨fun a U g mk q => ⟨q.1, q.2.1, va_K.moved (u := U) (U := U.calling g mk a) (Vm.Alike.refl U.vm) q.2.2⟩, va_recv hK hP (ci := 9) (q0 := k0) rfl e0, fun U hU hW => ⟨rfl, by rw [hU]; exact hP, va_K.moved hW.alike hK⟩⟩ rfl rfl hl.1 rfl (lv_room (Nat.le_of_ble_eq_true rfl)) dX9_of_2 ⟨Nat.le_of_ble_eq_true rfl, Nat.le_of_ble_eq_true rfl⟩) (fun r_1 k_2 => ?_)
  subst k_2
  refine lv_if_eq (tgt := 18) hx hb dX9_of_5 (by decide) (fun c_3 => ?_) (fun c_3 => absurd (by decide) c_3)
  refine lv_iconst (v := (-1)) hx hb dX9_of_18 (by decide) ?_
  refine lv_goto (tgt := 33) hx hb dX9_of_19 (by decide) ?_
  exact W.iret (v := (-1)) hx hb hr (fun t ht hW => ⟨(-1), rfl, (by first | rfl | (simp_all; done) | simp [c_3]), ht⟩) (fun _ h9 => by cases h9) dX9_of_33
set_option maxHeartbeats 4000000 in
set_option maxRecDepth 100000 in
theorem s_X9_span (l : Launch) (D : va_G) (ws : va_W) (tys : List (ClassId × FieldType)) (h0 : Nat) (X : MF ws tys h0) (a1 a2 a3 : Int32) : Met l yX9_span wsX9_span ({ frames := 1, cells := 0, slots := 0, locals := 21 }) (va_Pc [.ref h0, .int a1, .int a2, .int a3] (fun U => va_P D vwCl ws U.heap ∧ va_K D vwCl tys U)) (vp_Si (fun r => r = (-1))) 0 0 (fun _ => False) := by
  refine Met.ofW (cc := cX9_span) (maxL := 4) (ret := (some .int)) (by decide) rfl ?_
  intro p e s m args below meth c s₁ B hml hv
  obtain ⟨rfl, hP, hK⟩ := hv
  have hx := B.exec
  have hb := B.bytes
  have hr := B.returns
  have hts := atoms_spec (ws := wsX9_span) B.pre
  have hown : s.vm.findClass RX9 = some m.cls := findClass_of_methodNamed B.named
  have hlocks := B.notSynchronized
  have hl := lv_entry ([.ref h0, .int a1, .int a2, .int a3]) (n := 4) (Nat.le_of_ble_eq_true rfl)
  rw [lg_entry_eq]
  generalize (lg_sl ([.ref h0, .int a1, .int a2, .int a3]) ++ List.replicate (4 - (lg_sl ([.ref h0, .int a1, .int a2, .int a3])).length) Slot.unset).toArray = ls at hl ⊢
  have hl : lv_has ls 4 [(0, .ref h0), (1, .int a1), (2, .int a2), (3, .int a3)] := hl
  have X0 := X
  obtain ⟨k0, ah, ar, ap, kh, kr, kp, fs, ch, cr, cp, th, tr, tp, e0, f2, f3, f13, f14, f21, f22, f35, f43, f10, f11, f12, eh, uh, er, ur, ep, up⟩ := X
  refine lv_aload_n hx hb dX9_span_0 rfl (lv_at hl 0 rfl) ?_
  refine lv_iload_n hx hb dX9_span_1 rfl (lv_at hl 1 rfl) ?_
  refine vp_callSi (W.runV (As := [.int a1]) (rest := []) ⟨hx, hb, hml, hown, hts⟩ (s_X9_isLot l D ws tys h0 k0 _ a1 e0 f3) (cwV 1 hts gX9_span_X9_isLot rfl rfl rfl (by decide +kernel) ⟨Nat.le_of_ble_eq_true rfl, Nat.le_of_ble_eq_true rfl⟩) ⟨fun a U g mk q => ⟨q.1, q.2.1, va_K.moved (u := U) (U := U.calling g mk a) (Vm.Alike.refl U.vm) q.2.2⟩, va_recv hK hP (ci := 9) (q0 := k0) rfl e0, fun U hU hW => ⟨rfl, by rw [hU]; exact hP, va_K.moved hW.alike hK⟩⟩ rfl rfl hl.1 rfl (lv_room (Nat.le_of_ble_eq_true rfl)) dX9_span_2 ⟨Nat.le_of_ble_eq_true rfl, Nat.le_of_ble_eq_true rfl⟩) (fun r_1 k_2 => ?_)
  subst k_2
  refine lv_if_eq (tgt := 26) hx hb dX9_span_5 (by decide) (fun c_3 => ?_) (fun c_3 => absurd (by decide) c_3)
  refine lv_iconst (v := (-1)) hx hb dX9_span_26 (by decide) ?_
  refine lv_goto (tgt := 57) hx hb dX9_span_27 (by decide) ?_
  exact W.iret (v := (-1)) hx hb hr (fun t ht hW => ⟨(-1), rfl, (by first | rfl | (simp_all; done) | simp [c_3]), ht⟩) (fun _ h9 => by cases h9) dX9_span_57
set_option maxHeartbeats 4000000 in
set_option maxRecDepth 100000 in
theorem s_X9_trace (l : Launch) (D : va_G) (ws : va_W) (tys : List (ClassId × FieldType)) (h0 : Nat) (X : MF ws tys h0) (a1 : Int32) : Met l yX9_trace wsX9_trace ({ frames := 1, cells := 0, slots := 0, locals := 21 }) (va_Pc [.ref h0, .int a1] (fun U => va_P D vwCl ws U.heap ∧ va_K D vwCl tys U)) (vp_Si (fun r => r = (-1))) 0 0 (fun _ => False) := by
  refine Met.ofW (cc := cX9_trace) (maxL := 3) (ret := (some .int)) (by decide) rfl ?_
  intro p e s m args below meth c s₁ B hml hv
  obtain ⟨rfl, hP, hK⟩ := hv
  have hx := B.exec
  have hb := B.bytes
  have hr := B.returns
  have hts := atoms_spec (ws := wsX9_trace) B.pre
  have hown : s.vm.findClass RX9 = some m.cls := findClass_of_methodNamed B.named
  have hlocks := B.notSynchronized
  have hl := lv_entry ([.ref h0, .int a1]) (n := 3) (Nat.le_of_ble_eq_true rfl)
  rw [lg_entry_eq]
  generalize (lg_sl ([.ref h0, .int a1]) ++ List.replicate (3 - (lg_sl ([.ref h0, .int a1])).length) Slot.unset).toArray = ls at hl ⊢
  have hl : lv_has ls 3 [(0, .ref h0), (1, .int a1)] := hl
  have X0 := X
  obtain ⟨k0, ah, ar, ap, kh, kr, kp, fs, ch, cr, cp, th, tr, tp, e0, f2, f3, f13, f14, f21, f22, f35, f43, f10, f11, f12, eh, uh, er, ur, ep, up⟩ := X
  refine lv_aload_n hx hb dX9_trace_0 rfl (lv_at hl 0 rfl) ?_
  refine lv_iload_n hx hb dX9_trace_1 rfl (lv_at hl 1 rfl) ?_
  refine vp_callSi (W.runV (As := [.int a1]) (rest := []) ⟨hx, hb, hml, hown, hts⟩ (s_X9_isLot l D ws tys h0 k0 _ a1 e0 f3) (cwV 1 hts gX9_trace_X9_isLot rfl rfl rfl (by decide +kernel) ⟨Nat.le_of_ble_eq_true rfl, Nat.le_of_ble_eq_true rfl⟩) ⟨fun a U g mk q => ⟨q.1, q.2.1, va_K.moved (u := U) (U := U.calling g mk a) (Vm.Alike.refl U.vm) q.2.2⟩, va_recv hK hP (ci := 9) (q0 := k0) rfl e0, fun U hU hW => ⟨rfl, by rw [hU]; exact hP, va_K.moved hW.alike hK⟩⟩ rfl rfl hl.1 rfl (lv_room (Nat.le_of_ble_eq_true rfl)) dX9_trace_2 ⟨Nat.le_of_ble_eq_true rfl, Nat.le_of_ble_eq_true rfl⟩) (fun r_1 k_2 => ?_)
  subst k_2
  refine lv_if_ne (tgt := 10) hx hb dX9_trace_5 (by decide) (fun c_3 => absurd (by decide) c_3) (fun c_3 => ?_)
  refine lv_iconst (v := (-1)) hx hb dX9_trace_8 (by decide) ?_
  exact W.iret (v := (-1)) hx hb hr (fun t ht hW => ⟨(-1), rfl, (by first | rfl | (simp_all; done) | simp [c_3]), ht⟩) (fun _ h9 => by cases h9) dX9_trace_9
set_option maxHeartbeats 4000000 in
set_option maxRecDepth 100000 in
theorem s_X9_pour (l : Launch) (D : va_G) (ws : va_W) (tys : List (ClassId × FieldType)) (h0 : Nat) (X : MF ws tys h0) (a1 a2 a3 : Int32) : Met l yX9_pour wsX9_pour ({ frames := 1, cells := 0, slots := 0, locals := 21 }) (va_Pc [.ref h0, .int a1, .int a2, .int a3] (fun U => va_P D vwCl ws U.heap ∧ va_K D vwCl tys U)) (vp_Si (fun r => r = (-1))) 0 0 (fun _ => False) := by
  refine Met.ofW (cc := cX9_pour) (maxL := 4) (ret := (some .int)) (by decide) rfl ?_
  intro p e s m args below meth c s₁ B hml hv
  obtain ⟨rfl, hP, hK⟩ := hv
  have hx := B.exec
  have hb := B.bytes
  have hr := B.returns
  have hts := atoms_spec (ws := wsX9_pour) B.pre
  have hown : s.vm.findClass RX9 = some m.cls := findClass_of_methodNamed B.named
  have hlocks := B.notSynchronized
  have hl := lv_entry ([.ref h0, .int a1, .int a2, .int a3]) (n := 4) (Nat.le_of_ble_eq_true rfl)
  rw [lg_entry_eq]
  generalize (lg_sl ([.ref h0, .int a1, .int a2, .int a3]) ++ List.replicate (4 - (lg_sl ([.ref h0, .int a1, .int a2, .int a3])).length) Slot.unset).toArray = ls at hl ⊢
  have hl : lv_has ls 4 [(0, .ref h0), (1, .int a1), (2, .int a2), (3, .int a3)] := hl
  have X0 := X
  obtain ⟨k0, ah, ar, ap, kh, kr, kp, fs, ch, cr, cp, th, tr, tp, e0, f2, f3, f13, f14, f21, f22, f35, f43, f10, f11, f12, eh, uh, er, ur, ep, up⟩ := X
  refine lv_aload_n hx hb dX9_pour_0 rfl (lv_at hl 0 rfl) ?_
  refine lv_iload_n hx hb dX9_pour_1 rfl (lv_at hl 1 rfl) ?_
  refine vp_callSi (W.runV (As := [.int a1]) (rest := []) ⟨hx, hb, hml, hown, hts⟩ (s_X9_isLot l D ws tys h0 k0 _ a1 e0 f3) (cwV 1 hts gX9_pour_X9_isLot rfl rfl rfl (by decide +kernel) ⟨Nat.le_of_ble_eq_true rfl, Nat.le_of_ble_eq_true rfl⟩) ⟨fun a U g mk q => ⟨q.1, q.2.1, va_K.moved (u := U) (U := U.calling g mk a) (Vm.Alike.refl U.vm) q.2.2⟩, va_recv hK hP (ci := 9) (q0 := k0) rfl e0, fun U hU hW => ⟨rfl, by rw [hU]; exact hP, va_K.moved hW.alike hK⟩⟩ rfl rfl hl.1 rfl (lv_room (Nat.le_of_ble_eq_true rfl)) dX9_pour_2 ⟨Nat.le_of_ble_eq_true rfl, Nat.le_of_ble_eq_true rfl⟩) (fun r_1 k_2 => ?_)
  subst k_2
  refine lv_if_eq (tgt := 15) hx hb dX9_pour_5 (by decide) (fun c_3 => ?_) (fun c_3 => absurd (by decide) c_3)
  refine lv_iconst (v := (-1)) hx hb dX9_pour_15 (by decide) ?_
  exact W.iret (v := (-1)) hx hb hr (fun t ht hW => ⟨(-1), rfl, (by first | rfl | (simp_all; done) | simp [c_3]), ht⟩) (fun _ h9 => by cases h9) dX9_pour_16
set_option maxHeartbeats 4000000 in
set_option maxRecDepth 100000 in
theorem s_X9_move (l : Launch) (D : va_G) (ws : va_W) (tys : List (ClassId × FieldType)) (h0 : Nat) (X : MF ws tys h0) (a1 a2 a3 : Int32) : Met l yX9_move wsX9_move ({ frames := 1, cells := 0, slots := 0, locals := 23 }) (va_Pc [.ref h0, .int a1, .int a2, .int a3] (fun U => va_P D vwCl ws U.heap ∧ va_K D vwCl tys U)) (vp_Si (fun r => r = if (a1 < 0 ∨ 9 < a1) ∨ (a2 < 0 ∨ 9 < a2) ∨ a1 = a2 then (-1) else (-2))) 0 0 (fun _ => False) := by
  refine Met.ofW (cc := cX9_move) (maxL := 6) (ret := (some .int)) (by decide) rfl ?_
  intro p e s m args below meth c s₁ B hml hv
  obtain ⟨rfl, hP, hK⟩ := hv
  have hx := B.exec
  have hb := B.bytes
  have hr := B.returns
  have hts := atoms_spec (ws := wsX9_move) B.pre
  have hown : s.vm.findClass RX9 = some m.cls := findClass_of_methodNamed B.named
  have hlocks := B.notSynchronized
  have hl := lv_entry ([.ref h0, .int a1, .int a2, .int a3]) (n := 6) (Nat.le_of_ble_eq_true rfl)
  rw [lg_entry_eq]
  generalize (lg_sl ([.ref h0, .int a1, .int a2, .int a3]) ++ List.replicate (6 - (lg_sl ([.ref h0, .int a1, .int a2, .int a3])).length) Slot.unset).toArray = ls at hl ⊢
  have hl : lv_has ls 6 [(0, .ref h0), (1, .int a1), (2, .int a2), (3, .int a3)] := hl
  have X0 := X
  obtain ⟨k0, ah, ar, ap, kh, kr, kp, fs, ch, cr, cp, th, tr, tp, e0, f2, f3, f13, f14, f21, f22, f35, f43, f10, f11, f12, eh, uh, er, ur, ep, up⟩ := X
  refine lv_iload_n hx hb dX9_move_0 rfl (lv_at hl 1 rfl) ?_
  refine vp_callSi (W.runS (As := [.int a1]) (rest := []) ⟨hx, hb, hml, hown, hts⟩ (s_X9_isTank l a1) (va_cwS 1 hts gX9_move_X9_isTank rfl rfl rfl (by decide +kernel) ⟨Nat.le_of_ble_eq_true rfl, Nat.le_of_ble_eq_true rfl⟩) ⟨fun a U g mk q => q, fun U hU hW => ⟨rfl, trivial⟩⟩ rfl rfl hl.1 rfl (lv_room (Nat.le_of_ble_eq_true rfl)) dX9_move_1 ⟨Nat.le_of_ble_eq_true rfl, Nat.le_of_ble_eq_true rfl⟩) (fun r_1 k_2 => ?_)
  rcases k_2 with ⟨rfl, a_3o⟩ | ⟨rfl, a_3, b_4⟩
  · refine lv_if_eq (tgt := 19) hx hb dX9_move_4 (by decide) (fun c_5 => ?_) (fun c_5 => absurd (by decide) c_5)
    refine lv_iconst (v := (-1)) hx hb dX9_move_19 (by decide) ?_
    exact W.iret (v := (-1)) hx hb hr (fun t ht hW => ⟨(-1), rfl, (by rcases a_3o with a_3o | a_3o <;> simp_all), ht⟩) (fun _ h9 => by cases h9) dX9_move_20
  refine lv_if_eq (tgt := 19) hx hb dX9_move_4 (by decide) (fun c_6 => absurd c_6 (by decide)) (fun c_6 => ?_)
  refine lv_iload_n hx hb dX9_move_7 rfl (lv_at hl 2 rfl) ?_
  refine vp_callSi (W.runS (As := [.int a2]) (rest := []) ⟨hx, hb, hml, hown, hts⟩ (s_X9_isTank l a2) (va_cwS 1 hts gX9_move_X9_isTank rfl rfl rfl (by decide +kernel) ⟨Nat.le_of_ble_eq_true rfl, Nat.le_of_ble_eq_true rfl⟩) ⟨fun a U g mk q => q, fun U hU hW => ⟨rfl, trivial⟩⟩ rfl rfl hl.1 rfl (lv_room (Nat.le_of_ble_eq_true rfl)) dX9_move_8 ⟨Nat.le_of_ble_eq_true rfl, Nat.le_of_ble_eq_true rfl⟩) (fun r_7 k_8 => ?_)
  rcases k_8 with ⟨rfl, a_9o⟩ | ⟨rfl, a_9, b_10⟩
  · refine lv_if_eq (tgt := 19) hx hb dX9_move_11 (by decide) (fun c_11 => ?_) (fun c_11 => absurd (by decide) c_11)
    refine lv_iconst (v := (-1)) hx hb dX9_move_19 (by decide) ?_
    exact W.iret (v := (-1)) hx hb hr (fun t ht hW => ⟨(-1), rfl, (by rcases a_9o with a_9o | a_9o <;> simp_all), ht⟩) (fun _ h9 => by cases h9) dX9_move_20
  refine lv_if_eq (tgt := 19) hx hb dX9_move_11 (by decide) (fun c_12 => absurd c_12 (by decide)) (fun c_12 => ?_)
  refine lv_iload_n hx hb dX9_move_14 rfl (lv_at hl 1 rfl) ?_
  refine lv_iload_n hx hb dX9_move_15 rfl (lv_at hl 2 rfl) ?_
  refine lv_icmp_ne (tgt := 21) hx hb dX9_move_16 (by decide) (fun c_13 => ?_) (fun c_13 => ?_)
  · refine lv_iload_n hx hb dX9_move_21 rfl (lv_at hl 3 rfl) ?_
    refine lv_iconst (v := 1) hx hb dX9_move_22 (by decide) ?_
    refine lv_icmp_lt (tgt := 51) hx hb dX9_move_23 (by decide) (fun c_14 => ?_) (fun c_14 => ?_)
    · refine lv_bipush (v := (-2)) hx hb dX9_move_51 (by decide) ?_
      exact W.iret (v := (-2)) hx hb hr (fun t ht hW => ⟨(-2), rfl, (by first | rfl | (simp_all; done) | simp [a_3, b_4, c_6, a_9, b_10, c_12, c_13, c_14]), ht⟩) (fun _ h9 => by cases h9) dX9_move_53
    refine lv_iload_n hx hb dX9_move_26 rfl (lv_at hl 3 rfl) ?_
    refine lv_aload_n hx hb dX9_move_27 rfl (lv_at hl 0 rfl) ?_
    refine lv_iload_n hx hb dX9_move_28 rfl (lv_at hl 1 rfl) ?_
    refine vp_callSi (W.runV (As := [.int a1]) (rest := [.int a3]) ⟨hx, hb, hml, hown, hts⟩ (s_X9_all l D ws tys h0 k0 _ a1 e0 f3) (cwV 1 hts gX9_move_X9_all rfl rfl rfl (by decide +kernel) ⟨Nat.le_of_ble_eq_true rfl, Nat.le_of_ble_eq_true rfl⟩) ⟨fun a U g mk q => ⟨q.1, q.2.1, va_K.moved (u := U) (U := U.calling g mk a) (Vm.Alike.refl U.vm) q.2.2⟩, va_recv hK hP (ci := 9) (q0 := k0) rfl e0, fun U hU hW => ⟨rfl, by rw [hU]; exact hP, va_K.moved hW.alike hK⟩⟩ rfl rfl hl.1 rfl (lv_room (Nat.le_of_ble_eq_true rfl)) dX9_move_29 ⟨Nat.le_of_ble_eq_true rfl, Nat.le_of_ble_eq_true rfl⟩) (fun r_15 k_16 => ?_)
    subst k_16
    refine lv_icmp_gt (tgt := 51) hx hb dX9_move_32 (by decide) (fun c_17 => ?_) (fun c_17 => absurd (i_gt0 c_14) c_17)
    refine lv_bipush (v := (-2)) hx hb dX9_move_51 (by decide) ?_
    exact W.iret (v := (-2)) hx hb hr (fun t ht hW => ⟨(-2), rfl, (by first | rfl | (simp_all; done) | simp [a_3, b_4, c_6, a_9, b_10, c_12, c_13, c_14, c_17]), ht⟩) (fun _ h9 => by cases h9) dX9_move_53
  refine lv_iconst (v := (-1)) hx hb dX9_move_19 (by decide) ?_
  exact W.iret (v := (-1)) hx hb hr (fun t ht hW => ⟨(-1), rfl, (by first | rfl | (simp_all; done) | simp [a_3, b_4, c_6, a_9, b_10, c_12, c_13]), ht⟩) (fun _ h9 => by cases h9) dX9_move_20
set_option maxHeartbeats 4000000 in
set_option maxRecDepth 100000 in
theorem s_X9_warm (l : Launch) (D : va_G) (ws : va_W) (tys : List (ClassId × FieldType)) (h0 : Nat) (X : MF ws tys h0) (a1 a2 : Int32) : Met l yX9_warm wsX9_warm ({ frames := 1, cells := 0, slots := 0, locals := 23 }) (va_Pc [.ref h0, .int a1, .int a2] (fun U => va_P D vwCl ws U.heap ∧ va_K D vwCl tys U)) (vp_Si (fun r => r = (-1))) 0 0 (fun _ => False) := by
  refine Met.ofW (cc := cX9_warm) (maxL := 3) (ret := (some .int)) (by decide) rfl ?_
  intro p e s m args below meth c s₁ B hml hv
  obtain ⟨rfl, hP, hK⟩ := hv
  have hx := B.exec
  have hb := B.bytes
  have hr := B.returns
  have hts := atoms_spec (ws := wsX9_warm) B.pre
  have hown : s.vm.findClass RX9 = some m.cls := findClass_of_methodNamed B.named
  have hlocks := B.notSynchronized
  have hl := lv_entry ([.ref h0, .int a1, .int a2]) (n := 3) (Nat.le_of_ble_eq_true rfl)
  rw [lg_entry_eq]
  generalize (lg_sl ([.ref h0, .int a1, .int a2]) ++ List.replicate (3 - (lg_sl ([.ref h0, .int a1, .int a2])).length) Slot.unset).toArray = ls at hl ⊢
  have hl : lv_has ls 3 [(0, .ref h0), (1, .int a1), (2, .int a2)] := hl
  have X0 := X
  obtain ⟨k0, ah, ar, ap, kh, kr, kp, fs, ch, cr, cp, th, tr, tp, e0, f2, f3, f13, f14, f21, f22, f35, f43, f10, f11, f12, eh, uh, er, ur, ep, up⟩ := X
  refine lv_iload_n hx hb dX9_warm_0 rfl (lv_at hl 1 rfl) ?_
  refine vp_callSi (W.runS (As := [.int a1]) (rest := []) ⟨hx, hb, hml, hown, hts⟩ (s_X9_isTank l a1) (va_cwS 1 hts gX9_warm_X9_isTank rfl rfl rfl (by decide +kernel) ⟨Nat.le_of_ble_eq_true rfl, Nat.le_of_ble_eq_true rfl⟩) ⟨fun a U g mk q => q, fun U hU hW => ⟨rfl, trivial⟩⟩ rfl rfl hl.1 rfl (lv_room (Nat.le_of_ble_eq_true rfl)) dX9_warm_1 ⟨Nat.le_of_ble_eq_true rfl, Nat.le_of_ble_eq_true rfl⟩) (fun r_1 k_2 => ?_)
  rcases k_2 with ⟨rfl, a_3o⟩ | ⟨rfl, a_3, b_4⟩
  · refine lv_if_eq (tgt := 26) hx hb dX9_warm_4 (by decide) (fun c_5 => ?_) (fun c_5 => absurd (by decide) c_5)
    refine lv_iconst (v := (-1)) hx hb dX9_warm_26 (by decide) ?_
    exact W.iret (v := (-1)) hx hb hr (fun t ht hW => ⟨(-1), rfl, (by rcases a_3o with a_3o | a_3o <;> simp_all), ht⟩) (fun _ h9 => by cases h9) dX9_warm_27
  refine lv_if_eq (tgt := 26) hx hb dX9_warm_4 (by decide) (fun c_6 => absurd c_6 (by decide)) (fun c_6 => ?_)
  refine lv_aload_n hx hb dX9_warm_7 rfl (lv_at hl 0 rfl) ?_
  refine lv_iload_n hx hb dX9_warm_8 rfl (lv_at hl 1 rfl) ?_
  refine vp_callSi (W.runV (As := [.int a1]) (rest := []) ⟨hx, hb, hml, hown, hts⟩ (s_X9_all l D ws tys h0 k0 _ a1 e0 f3) (cwV 1 hts gX9_warm_X9_all rfl rfl rfl (by decide +kernel) ⟨Nat.le_of_ble_eq_true rfl, Nat.le_of_ble_eq_true rfl⟩) ⟨fun a U g mk q => ⟨q.1, q.2.1, va_K.moved (u := U) (U := U.calling g mk a) (Vm.Alike.refl U.vm) q.2.2⟩, va_recv hK hP (ci := 9) (q0 := k0) rfl e0, fun U hU hW => ⟨rfl, by rw [hU]; exact hP, va_K.moved hW.alike hK⟩⟩ rfl rfl hl.1 rfl (lv_room (Nat.le_of_ble_eq_true rfl)) dX9_warm_9 ⟨Nat.le_of_ble_eq_true rfl, Nat.le_of_ble_eq_true rfl⟩) (fun r_7 k_8 => ?_)
  subst k_8
  refine lv_if_eq (tgt := 26) hx hb dX9_warm_12 (by decide) (fun c_9 => ?_) (fun c_9 => absurd (by decide) c_9)
  refine lv_iconst (v := (-1)) hx hb dX9_warm_26 (by decide) ?_
  exact W.iret (v := (-1)) hx hb hr (fun t ht hW => ⟨(-1), rfl, (by first | rfl | (simp_all; done) | simp [a_3, b_4, c_6, c_9]), ht⟩) (fun _ h9 => by cases h9) dX9_warm_27
set_option maxHeartbeats 4000000 in
set_option maxRecDepth 100000 in
theorem s_X9_jar (l : Launch) (D : va_G) (ws : va_W) (tys : List (ClassId × FieldType)) (h0 : Nat) (X : MF ws tys h0) (a1 a2 : Int32) : Met l yX9_jar wsX9_jar ({ frames := 1, cells := 0, slots := 0, locals := 23 }) (va_Pc [.ref h0, .int a1, .int a2] (fun U => va_P D vwCl ws U.heap ∧ va_K D vwCl tys U)) (vp_Si (fun r => r = if a1 < 0 ∨ 9 < a1 then (-1) else (-2))) 0 0 (fun _ => False) := by
  refine Met.ofW (cc := cX9_jar) (maxL := 5) (ret := (some .int)) (by decide) rfl ?_
  intro p e s m args below meth c s₁ B hml hv
  obtain ⟨rfl, hP, hK⟩ := hv
  have hx := B.exec
  have hb := B.bytes
  have hr := B.returns
  have hts := atoms_spec (ws := wsX9_jar) B.pre
  have hown : s.vm.findClass RX9 = some m.cls := findClass_of_methodNamed B.named
  have hlocks := B.notSynchronized
  have hl := lv_entry ([.ref h0, .int a1, .int a2]) (n := 5) (Nat.le_of_ble_eq_true rfl)
  rw [lg_entry_eq]
  generalize (lg_sl ([.ref h0, .int a1, .int a2]) ++ List.replicate (5 - (lg_sl ([.ref h0, .int a1, .int a2])).length) Slot.unset).toArray = ls at hl ⊢
  have hl : lv_has ls 5 [(0, .ref h0), (1, .int a1), (2, .int a2)] := hl
  have X0 := X
  obtain ⟨k0, ah, ar, ap, kh, kr, kp, fs, ch, cr, cp, th, tr, tp, e0, f2, f3, f13, f14, f21, f22, f35, f43, f10, f11, f12, eh, uh, er, ur, ep, up⟩ := X
  refine lv_iload_n hx hb dX9_jar_0 rfl (lv_at hl 1 rfl) ?_
  refine vp_callSi (W.runS (As := [.int a1]) (rest := []) ⟨hx, hb, hml, hown, hts⟩ (s_X9_isTank l a1) (va_cwS 1 hts gX9_jar_X9_isTank rfl rfl rfl (by decide +kernel) ⟨Nat.le_of_ble_eq_true rfl, Nat.le_of_ble_eq_true rfl⟩) ⟨fun a U g mk q => q, fun U hU hW => ⟨rfl, trivial⟩⟩ rfl rfl hl.1 rfl (lv_room (Nat.le_of_ble_eq_true rfl)) dX9_jar_1 ⟨Nat.le_of_ble_eq_true rfl, Nat.le_of_ble_eq_true rfl⟩) (fun r_1 k_2 => ?_)
  rcases k_2 with ⟨rfl, a_3o⟩ | ⟨rfl, a_3, b_4⟩
  · refine lv_if_ne (tgt := 9) hx hb dX9_jar_4 (by decide) (fun c_5 => absurd (by decide) c_5) (fun c_5 => ?_)
    refine lv_iconst (v := (-1)) hx hb dX9_jar_7 (by decide) ?_
    exact W.iret (v := (-1)) hx hb hr (fun t ht hW => ⟨(-1), rfl, (by rcases a_3o with a_3o | a_3o <;> simp_all), ht⟩) (fun _ h9 => by cases h9) dX9_jar_8
  refine lv_if_ne (tgt := 9) hx hb dX9_jar_4 (by decide) (fun c_6 => ?_) (fun c_6 => absurd c_6 (by decide))
  refine lv_iload_n hx hb dX9_jar_9 rfl (lv_at hl 2 rfl) ?_
  refine lv_iconst (v := 1) hx hb dX9_jar_10 (by decide) ?_
  refine lv_icmp_lt (tgt := 23) hx hb dX9_jar_11 (by decide) (fun c_7 => ?_) (fun c_7 => ?_)
  · refine lv_bipush (v := (-2)) hx hb dX9_jar_23 (by decide) ?_
    exact W.iret (v := (-2)) hx hb hr (fun t ht hW => ⟨(-2), rfl, (by first | rfl | (simp_all; done) | simp [a_3, b_4, c_6, c_7]), ht⟩) (fun _ h9 => by cases h9) dX9_jar_25
  refine lv_iload_n hx hb dX9_jar_14 rfl (lv_at hl 2 rfl) ?_
  refine lv_aload_n hx hb dX9_jar_15 rfl (lv_at hl 0 rfl) ?_
  refine lv_iload_n hx hb dX9_jar_16 rfl (lv_at hl 1 rfl) ?_
  refine vp_callSi (W.runV (As := [.int a1]) (rest := [.int a2]) ⟨hx, hb, hml, hown, hts⟩ (s_X9_all l D ws tys h0 k0 _ a1 e0 f3) (cwV 1 hts gX9_jar_X9_all rfl rfl rfl (by decide +kernel) ⟨Nat.le_of_ble_eq_true rfl, Nat.le_of_ble_eq_true rfl⟩) ⟨fun a U g mk q => ⟨q.1, q.2.1, va_K.moved (u := U) (U := U.calling g mk a) (Vm.Alike.refl U.vm) q.2.2⟩, va_recv hK hP (ci := 9) (q0 := k0) rfl e0, fun U hU hW => ⟨rfl, by rw [hU]; exact hP, va_K.moved hW.alike hK⟩⟩ rfl rfl hl.1 rfl (lv_room (Nat.le_of_ble_eq_true rfl)) dX9_jar_17 ⟨Nat.le_of_ble_eq_true rfl, Nat.le_of_ble_eq_true rfl⟩) (fun r_8 k_9 => ?_)
  subst k_9
  refine lv_icmp_le (tgt := 26) hx hb dX9_jar_20 (by decide) (fun c_10 => absurd c_10 (i_g1 c_7)) (fun c_10 => ?_)
  refine lv_bipush (v := (-2)) hx hb dX9_jar_23 (by decide) ?_
  exact W.iret (v := (-2)) hx hb hr (fun t ht hW => ⟨(-2), rfl, (by first | rfl | (simp_all; done) | simp [a_3, b_4, c_6, c_7, c_10]), ht⟩) (fun _ h9 => by cases h9) dX9_jar_25
set_option maxHeartbeats 4000000 in
set_option maxRecDepth 100000 in
theorem s_X9_spill (l : Launch) (D : va_G) (ws : va_W) (tys : List (ClassId × FieldType)) (h0 : Nat) (X : MF ws tys h0) (a1 a2 : Int32) : Met l yX9_spill wsX9_spill ({ frames := 1, cells := 0, slots := 0, locals := 23 }) (va_Pc [.ref h0, .int a1, .int a2] (fun U => va_P D vwCl ws U.heap ∧ va_K D vwCl tys U)) (vp_Si (fun r => r = if a1 < 0 ∨ 9 < a1 then (-1) else (-2))) 0 0 (fun _ => False) := by
  refine Met.ofW (cc := cX9_spill) (maxL := 3) (ret := (some .int)) (by decide) rfl ?_
  intro p e s m args below meth c s₁ B hml hv
  obtain ⟨rfl, hP, hK⟩ := hv
  have hx := B.exec
  have hb := B.bytes
  have hr := B.returns
  have hts := atoms_spec (ws := wsX9_spill) B.pre
  have hown : s.vm.findClass RX9 = some m.cls := findClass_of_methodNamed B.named
  have hlocks := B.notSynchronized
  have hl := lv_entry ([.ref h0, .int a1, .int a2]) (n := 3) (Nat.le_of_ble_eq_true rfl)
  rw [lg_entry_eq]
  generalize (lg_sl ([.ref h0, .int a1, .int a2]) ++ List.replicate (3 - (lg_sl ([.ref h0, .int a1, .int a2])).length) Slot.unset).toArray = ls at hl ⊢
  have hl : lv_has ls 3 [(0, .ref h0), (1, .int a1), (2, .int a2)] := hl
  have X0 := X
  obtain ⟨k0, ah, ar, ap, kh, kr, kp, fs, ch, cr, cp, th, tr, tp, e0, f2, f3, f13, f14, f21, f22, f35, f43, f10, f11, f12, eh, uh, er, ur, ep, up⟩ := X
  refine lv_iload_n hx hb dX9_spill_0 rfl (lv_at hl 1 rfl) ?_
  refine vp_callSi (W.runS (As := [.int a1]) (rest := []) ⟨hx, hb, hml, hown, hts⟩ (s_X9_isTank l a1) (va_cwS 1 hts gX9_spill_X9_isTank rfl rfl rfl (by decide +kernel) ⟨Nat.le_of_ble_eq_true rfl, Nat.le_of_ble_eq_true rfl⟩) ⟨fun a U g mk q => q, fun U hU hW => ⟨rfl, trivial⟩⟩ rfl rfl hl.1 rfl (lv_room (Nat.le_of_ble_eq_true rfl)) dX9_spill_1 ⟨Nat.le_of_ble_eq_true rfl, Nat.le_of_ble_eq_true rfl⟩) (fun r_1 k_2 => ?_)
  rcases k_2 with ⟨rfl, a_3o⟩ | ⟨rfl, a_3, b_4⟩
  · refine lv_if_ne (tgt := 9) hx hb dX9_spill_4 (by decide) (fun c_5 => absurd (by decide) c_5) (fun c_5 => ?_)
    refine lv_iconst (v := (-1)) hx hb dX9_spill_7 (by decide) ?_
    exact W.iret (v := (-1)) hx hb hr (fun t ht hW => ⟨(-1), rfl, (by rcases a_3o with a_3o | a_3o <;> simp_all), ht⟩) (fun _ h9 => by cases h9) dX9_spill_8
  refine lv_if_ne (tgt := 9) hx hb dX9_spill_4 (by decide) (fun c_6 => ?_) (fun c_6 => absurd c_6 (by decide))
  refine lv_iload_n hx hb dX9_spill_9 rfl (lv_at hl 2 rfl) ?_
  refine lv_iconst (v := 1) hx hb dX9_spill_10 (by decide) ?_
  refine lv_icmp_lt (tgt := 23) hx hb dX9_spill_11 (by decide) (fun c_7 => ?_) (fun c_7 => ?_)
  · refine lv_bipush (v := (-2)) hx hb dX9_spill_23 (by decide) ?_
    exact W.iret (v := (-2)) hx hb hr (fun t ht hW => ⟨(-2), rfl, (by first | rfl | (simp_all; done) | simp [a_3, b_4, c_6, c_7]), ht⟩) (fun _ h9 => by cases h9) dX9_spill_25
  refine lv_iload_n hx hb dX9_spill_14 rfl (lv_at hl 2 rfl) ?_
  refine lv_aload_n hx hb dX9_spill_15 rfl (lv_at hl 0 rfl) ?_
  refine lv_iload_n hx hb dX9_spill_16 rfl (lv_at hl 1 rfl) ?_
  refine vp_callSi (W.runV (As := [.int a1]) (rest := [.int a2]) ⟨hx, hb, hml, hown, hts⟩ (s_X9_all l D ws tys h0 k0 _ a1 e0 f3) (cwV 1 hts gX9_spill_X9_all rfl rfl rfl (by decide +kernel) ⟨Nat.le_of_ble_eq_true rfl, Nat.le_of_ble_eq_true rfl⟩) ⟨fun a U g mk q => ⟨q.1, q.2.1, va_K.moved (u := U) (U := U.calling g mk a) (Vm.Alike.refl U.vm) q.2.2⟩, va_recv hK hP (ci := 9) (q0 := k0) rfl e0, fun U hU hW => ⟨rfl, by rw [hU]; exact hP, va_K.moved hW.alike hK⟩⟩ rfl rfl hl.1 rfl (lv_room (Nat.le_of_ble_eq_true rfl)) dX9_spill_17 ⟨Nat.le_of_ble_eq_true rfl, Nat.le_of_ble_eq_true rfl⟩) (fun r_8 k_9 => ?_)
  subst k_9
  refine lv_icmp_le (tgt := 26) hx hb dX9_spill_20 (by decide) (fun c_10 => absurd c_10 (i_g1 c_7)) (fun c_10 => ?_)
  refine lv_bipush (v := (-2)) hx hb dX9_spill_23 (by decide) ?_
  exact W.iret (v := (-2)) hx hb hr (fun t ht hW => ⟨(-2), rfl, (by first | rfl | (simp_all; done) | simp [a_3, b_4, c_6, c_7, c_10]), ht⟩) (fun _ h9 => by cases h9) dX9_spill_25
set_option maxHeartbeats 4000000 in
set_option maxRecDepth 100000 in
theorem s_X9_holds (l : Launch) (D : va_G) (ws : va_W) (tys : List (ClassId × FieldType)) (h0 : Nat) (X : MF ws tys h0) (a1 a2 a3 : Int32) : Met l yX9_holds wsX9_holds ({ frames := 2, cells := 0, slots := 0, locals := 42 }) (va_Pc [.ref h0, .int a1, .int a2, .int a3] (fun U => va_P D vwCl ws U.heap ∧ va_K D vwCl tys U)) (vp_Si (fun r => r = if a1 = 0 ∧ ¬ a2 < 0 ∧ ¬ 9 < a2 ∧ (a3 = 0 ∨ a3 = 1 ∨ a3 = 2 ∨ a3 = 3 ∨ a3 = 4) then 0 else (-1))) 0 0 (fun _ => False) := by
  refine Met.ofW (cc := cX9_holds) (maxL := 7) (ret := (some .int)) (by decide) rfl ?_
  intro p e s m args below meth c s₁ B hml hv
  obtain ⟨rfl, hP, hK⟩ := hv
  have hx := B.exec
  have hb := B.bytes
  have hr := B.returns
  have hts := atoms_spec (ws := wsX9_holds) B.pre
  have hown : s.vm.findClass RX9 = some m.cls := findClass_of_methodNamed B.named
  have hlocks := B.notSynchronized
  have hin9 : ∀ w ∈ u_ws RX9 TX9 44, w ∈ wsX9_holds := (fun _ h9 => List.mem_cons_of_mem _ ((List.mem_append_right _ h9)))
  have hl := lv_entry ([.ref h0, .int a1, .int a2, .int a3]) (n := 7) (Nat.le_of_ble_eq_true rfl)
  rw [lg_entry_eq]
  generalize (lg_sl ([.ref h0, .int a1, .int a2, .int a3]) ++ List.replicate (7 - (lg_sl ([.ref h0, .int a1, .int a2, .int a3])).length) Slot.unset).toArray = ls at hl ⊢
  have hl : lv_has ls 7 [(0, .ref h0), (1, .int a1), (2, .int a2), (3, .int a3)] := hl
  have X0 := X
  obtain ⟨k0, ah, ar, ap, kh, kr, kp, fs, ch, cr, cp, th, tr, tp, e0, f2, f3, f13, f14, f21, f22, f35, f43, f10, f11, f12, eh, uh, er, ur, ep, up⟩ := X
  refine lv_aload_n hx hb dX9_holds_0 rfl (lv_at hl 0 rfl) ?_
  refine lv_iload_n hx hb dX9_holds_1 rfl (lv_at hl 1 rfl) ?_
  refine lv_iload_n hx hb dX9_holds_2 rfl (lv_at hl 2 rfl) ?_
  refine vp_callSi (W.runV (As := [.int a1, .int a2]) (rest := []) ⟨hx, hb, hml, hown, hts⟩ (s_X9_row l D ws tys h0 k0 _ a1 a2 e0 f13) (cwV 2 hts gX9_holds_X9_row rfl rfl rfl (by decide +kernel) ⟨Nat.le_of_ble_eq_true rfl, Nat.le_of_ble_eq_true rfl⟩) ⟨fun a U g mk q => ⟨q.1, q.2.1, va_K.moved (u := U) (U := U.calling g mk a) (Vm.Alike.refl U.vm) q.2.2⟩, va_recv hK hP (ci := 9) (q0 := k0) rfl e0, fun U hU hW => ⟨rfl, by rw [hU]; exact hP, va_K.moved hW.alike hK⟩⟩ rfl rfl hl.1 rfl (lv_room (Nat.le_of_ble_eq_true rfl)) dX9_holds_3 ⟨Nat.le_of_ble_eq_true rfl, Nat.le_of_ble_eq_true rfl⟩) (fun r_1 k_2 => ?_)
  rcases k_2 with ⟨rfl, a_3o⟩ | ⟨z_5, a_3, b_4, k_2⟩
  · refine lv_istore (lv' := [(4, .int (-1)), (0, .ref h0), (1, .int a1), (2, .int a2), (3, .int a3)]) hx hb dX9_holds_6 hl (by decide) rfl (fun ls hl => ?_)
    refine lv_iload hx hb dX9_holds_8 (lv_at hl 0 rfl) ?_
    refine lv_if_ge (tgt := 15) hx hb dX9_holds_10 (by decide) (fun c_6 => absurd c_6 (by decide)) (fun c_6 => ?_)
    refine lv_iconst (v := (-1)) hx hb dX9_holds_13 (by decide) ?_
    exact W.iret (v := (-1)) hx hb hr (fun t ht hW => ⟨(-1), rfl, (by rcases a_3o with a_3o | a_3o | a_3o <;> simp_all), ht⟩) (fun _ h9 => by cases h9) dX9_holds_14
  refine tp_i (y := a2) k_2 ?_
  refine lv_istore (lv' := [(4, .int a2), (0, .ref h0), (1, .int a1), (2, .int a2), (3, .int a3)]) hx hb dX9_holds_6 hl (by decide) rfl (fun ls hl => ?_)
  refine lv_iload hx hb dX9_holds_8 (lv_at hl 0 rfl) ?_
  refine lv_if_ge (tgt := 15) hx hb dX9_holds_10 (by decide) (fun c_7 => ?_) (fun c_7 => absurd (i_nlt a_3) c_7)
  refine lv_iconst (v := 0) hx hb dX9_holds_15 (by decide) ?_
  refine lv_istore (lv' := [(5, .int 0), (4, .int a2), (0, .ref h0), (1, .int a1), (2, .int a2), (3, .int a3)]) hx hb dX9_holds_16 hl (by decide) rfl (fun ls hl => ?_)
  refine lv_iload_n hx hb dX9_holds_18 rfl (lv_at hl 5 rfl) ?_
  by_cases c_8 : a3 = 0
  · refine lv_tableIn (off := 33) (tgt := 52) hx hb dX9_holds_19 (by rw [c_8]; decide) (by rw [c_8]; decide) (by rw [c_8]; rfl) (by decide) ?_
    refine lv_aload_n hx hb dX9_holds_52 rfl (lv_at hl 2 rfl) ?_
    refine lv_iload hx hb dX9_holds_53 (lv_at hl 1 rfl) ?_
    refine vp_callSi (W.runV (As := [.int a2]) (rest := []) ⟨hx, hb, hml, hown, hts⟩ (s_X9_all l D ws tys h0 k0 _ a2 e0 f3) (cwV 1 hts gX9_holds_X9_all rfl rfl rfl (by decide +kernel) ⟨Nat.le_of_ble_eq_true rfl, Nat.le_of_ble_eq_true rfl⟩) ⟨fun a U g mk q => ⟨q.1, q.2.1, va_K.moved (u := U) (U := U.calling g mk a) (Vm.Alike.refl U.vm) q.2.2⟩, va_recv hK hP (ci := 9) (q0 := k0) rfl e0, fun U hU hW => ⟨rfl, by rw [hU]; exact hP, va_K.moved hW.alike hK⟩⟩ rfl rfl hl.1 rfl (lv_room (Nat.le_of_ble_eq_true rfl)) dX9_holds_55 ⟨Nat.le_of_ble_eq_true rfl, Nat.le_of_ble_eq_true rfl⟩) (fun r_9 k_10 => ?_)
    subst k_10
    exact W.iret (v := 0) hx hb hr (fun t ht hW => ⟨0, rfl, (by first | rfl | (simp_all; done) | simp [z_5, a_3, b_4, c_7, c_8]), ht⟩) (fun _ h9 => by cases h9) dX9_holds_58
  by_cases c_11 : a3 = 1
  · refine lv_tableIn (off := 40) (tgt := 59) hx hb dX9_holds_19 (by rw [c_11]; decide) (by rw [c_11]; decide) (by rw [c_11]; rfl) (by decide) ?_
    refine lv_iconst (v := 0) hx hb dX9_holds_59 (by decide) ?_
    refine lv_istore (lv' := [(6, .int 0), (5, .int 0), (4, .int a2), (0, .ref h0), (1, .int a1), (2, .int a2), (3, .int a3)]) hx hb dX9_holds_60 hl (by decide) rfl (fun ls hl => ?_)
    refine lv_iload hx hb dX9_holds_62 (lv_at hl 0 rfl) ?_
    refine lv_aload_n hx hb dX9_holds_64 rfl (lv_at hl 3 rfl) ?_
    refine va_get (D := D) (ci := 9) (v := .int 0) (C := RX9) (T := TX9) (N := 44) hx hb hts hin9 hown hK hP k0 e0 rfl 3 (by decide) (hts (.fieldLink RX9 20 "HoneyHouseModel" "lots" "I") (List.mem_of_getElem? (i := 1) rfl)) (fun _ h9 => h9) f3 dX9_holds_65 ?_
    refine lv_icmp_ge (tgt := 103) hx hb dX9_holds_68 (by decide) (fun c_12 => ?_) (fun c_12 => absurd (by decide) c_12)
    refine lv_iload hx hb dX9_holds_103 (lv_at hl 1 rfl) ?_
    exact W.iret (v := 0) hx hb hr (fun t ht hW => ⟨0, rfl, (by first | rfl | (simp_all; done) | simp [z_5, a_3, b_4, c_7, c_8, c_11, c_12]), ht⟩) (fun _ h9 => by cases h9) dX9_holds_105
  by_cases c_13 : a3 = 2
  · refine lv_tableIn (off := 87) (tgt := 106) hx hb dX9_holds_19 (by rw [c_13]; decide) (by rw [c_13]; decide) (by rw [c_13]; rfl) (by decide) ?_
    refine lv_aload_n hx hb dX9_holds_106 rfl (lv_at hl 2 rfl) ?_
    refine va_get (D := D) (ci := 9) (v := .ref ah) (C := RX9) (T := TX9) (N := 44) hx hb hts hin9 hown hK hP k0 e0 rfl 10 (by decide) (hts (.fieldLink RX9 41 "HoneyHouseModel" "heat" "[I") (List.mem_of_getElem? (i := 3) rfl)) (fun _ h9 => h9) f10 dX9_holds_107 ?_
    refine lv_iload hx hb dX9_holds_110 (lv_at hl 1 rfl) ?_
    refine va_iald (f := fun _ => 0) (n := 70) hx hb hK hP kh th eh uh (i_inL a_3 b_4 (by decide)) dX9_holds_112 ?_
    refine tp_i (y := 0) (rfl) ?_
    exact W.iret (v := 0) hx hb hr (fun t ht hW => ⟨0, rfl, (by first | rfl | (simp_all; done) | simp [z_5, a_3, b_4, c_7, c_8, c_11, c_13]), ht⟩) (fun _ h9 => by cases h9) dX9_holds_113
  by_cases c_14 : a3 = 3
  · refine lv_tableIn (off := 95) (tgt := 114) hx hb dX9_holds_19 (by rw [c_14]; decide) (by rw [c_14]; decide) (by rw [c_14]; rfl) (by decide) ?_
    refine lv_aload_n hx hb dX9_holds_114 rfl (lv_at hl 2 rfl) ?_
    refine va_get (D := D) (ci := 9) (v := .ref ar) (C := RX9) (T := TX9) (N := 44) hx hb hts hin9 hown hK hP k0 e0 rfl 11 (by decide) (hts (.fieldLink RX9 44 "HoneyHouseModel" "room" "[I") (List.mem_of_getElem? (i := 4) rfl)) (fun _ h9 => h9) f11 dX9_holds_115 ?_
    refine lv_iload hx hb dX9_holds_118 (lv_at hl 1 rfl) ?_
    refine va_iald (f := fun _ => 0) (n := 70) hx hb hK hP kr tr er ur (i_inL a_3 b_4 (by decide)) dX9_holds_120 ?_
    refine tp_i (y := 0) (rfl) ?_
    exact W.iret (v := 0) hx hb hr (fun t ht hW => ⟨0, rfl, (by first | rfl | (simp_all; done) | simp [z_5, a_3, b_4, c_7, c_8, c_11, c_13, c_14]), ht⟩) (fun _ h9 => by cases h9) dX9_holds_121
  by_cases c_15 : a3 = 4
  · refine lv_tableIn (off := 103) (tgt := 122) hx hb dX9_holds_19 (by rw [c_15]; decide) (by rw [c_15]; decide) (by rw [c_15]; rfl) (by decide) ?_
    refine lv_aload_n hx hb dX9_holds_122 rfl (lv_at hl 2 rfl) ?_
    refine va_get (D := D) (ci := 9) (v := .ref ap) (C := RX9) (T := TX9) (N := 44) hx hb hts hin9 hown hK hP k0 e0 rfl 12 (by decide) (hts (.fieldLink RX9 47 "HoneyHouseModel" "price" "[I") (List.mem_of_getElem? (i := 5) rfl)) (fun _ h9 => h9) f12 dX9_holds_123 ?_
    refine lv_iload hx hb dX9_holds_126 (lv_at hl 1 rfl) ?_
    refine va_iald (f := fun _ => 0) (n := 70) hx hb hK hP kp tp ep up (i_inL a_3 b_4 (by decide)) dX9_holds_128 ?_
    refine tp_i (y := 0) (rfl) ?_
    exact W.iret (v := 0) hx hb hr (fun t ht hW => ⟨0, rfl, (by first | rfl | (simp_all; done) | simp [z_5, a_3, b_4, c_7, c_8, c_11, c_13, c_14, c_15]), ht⟩) (fun _ h9 => by cases h9) dX9_holds_129
  have nc_8 := lv_neT c_8 (a := 0) (by decide)
  have nc_11 := lv_neT c_11 (a := 1) (by decide)
  have nc_13 := lv_neT c_13 (a := 2) (by decide)
  have nc_14 := lv_neT c_14 (a := 3) (by decide)
  have nc_15 := lv_neT c_15 (a := 4) (by decide)
  refine lv_tableOut (tgt := 130) hx hb dX9_holds_19 (by omega) (by decide) ?_
  refine lv_iconst (v := (-1)) hx hb dX9_holds_130 (by decide) ?_
  exact W.iret (v := (-1)) hx hb hr (fun t ht hW => ⟨(-1), rfl, (by first | rfl | (simp_all; done) | simp [z_5, a_3, b_4, c_7, c_8, c_11, c_13, c_14, c_15]), ht⟩) (fun _ h9 => by cases h9) dX9_holds_131
set_option maxHeartbeats 4000000 in
set_option maxRecDepth 100000 in
theorem s_X9_part (l : Launch) (D : va_G) (ws : va_W) (tys : List (ClassId × FieldType)) (h0 : Nat) (X : MF ws tys h0) (a1 a2 a3 : Int32) : Met l yX9_part wsX9_part ({ frames := 2, cells := 0, slots := 0, locals := 42 }) (va_Pc [.ref h0, .int a1, .int a2, .int a3] (fun U => va_P D vwCl ws U.heap ∧ va_K D vwCl tys U)) (vp_Si (fun r => r = (-1))) 0 0 (fun _ => False) := by
  refine Met.ofW (cc := cX9_part) (maxL := 5) (ret := (some .int)) (by decide) rfl ?_
  intro p e s m args below meth c s₁ B hml hv
  obtain ⟨rfl, hP, hK⟩ := hv
  have hx := B.exec
  have hb := B.bytes
  have hr := B.returns
  have hts := atoms_spec (ws := wsX9_part) B.pre
  have hown : s.vm.findClass RX9 = some m.cls := findClass_of_methodNamed B.named
  have hlocks := B.notSynchronized
  have hl := lv_entry ([.ref h0, .int a1, .int a2, .int a3]) (n := 5) (Nat.le_of_ble_eq_true rfl)
  rw [lg_entry_eq]
  generalize (lg_sl ([.ref h0, .int a1, .int a2, .int a3]) ++ List.replicate (5 - (lg_sl ([.ref h0, .int a1, .int a2, .int a3])).length) Slot.unset).toArray = ls at hl ⊢
  have hl : lv_has ls 5 [(0, .ref h0), (1, .int a1), (2, .int a2), (3, .int a3)] := hl
  have X0 := X
  obtain ⟨k0, ah, ar, ap, kh, kr, kp, fs, ch, cr, cp, th, tr, tp, e0, f2, f3, f13, f14, f21, f22, f35, f43, f10, f11, f12, eh, uh, er, ur, ep, up⟩ := X
  refine lv_aload_n hx hb dX9_part_0 rfl (lv_at hl 0 rfl) ?_
  refine lv_iload_n hx hb dX9_part_1 rfl (lv_at hl 1 rfl) ?_
  refine lv_iload_n hx hb dX9_part_2 rfl (lv_at hl 2 rfl) ?_
  refine vp_callSi (W.runV (As := [.int a1, .int a2]) (rest := []) ⟨hx, hb, hml, hown, hts⟩ (s_X9_row l D ws tys h0 k0 _ a1 a2 e0 f13) (cwV 2 hts gX9_part_X9_row rfl rfl rfl (by decide +kernel) ⟨Nat.le_of_ble_eq_true rfl, Nat.le_of_ble_eq_true rfl⟩) ⟨fun a U g mk q => ⟨q.1, q.2.1, va_K.moved (u := U) (U := U.calling g mk a) (Vm.Alike.refl U.vm) q.2.2⟩, va_recv hK hP (ci := 9) (q0 := k0) rfl e0, fun U hU hW => ⟨rfl, by rw [hU]; exact hP, va_K.moved hW.alike hK⟩⟩ rfl rfl hl.1 rfl (lv_room (Nat.le_of_ble_eq_true rfl)) dX9_part_3 ⟨Nat.le_of_ble_eq_true rfl, Nat.le_of_ble_eq_true rfl⟩) (fun r_1 k_2 => ?_)
  rcases k_2 with ⟨rfl, a_3o⟩ | ⟨z_5, a_3, b_4, k_2⟩
  · refine lv_istore (lv' := [(4, .int (-1)), (0, .ref h0), (1, .int a1), (2, .int a2), (3, .int a3)]) hx hb dX9_part_6 hl (by decide) rfl (fun ls hl => ?_)
    refine lv_iload hx hb dX9_part_8 (lv_at hl 0 rfl) ?_
    refine lv_if_lt (tgt := 21) hx hb dX9_part_10 (by decide) (fun c_6 => ?_) (fun c_6 => absurd (by decide) c_6)
    refine lv_iconst (v := (-1)) hx hb dX9_part_21 (by decide) ?_
    refine lv_goto (tgt := 37) hx hb dX9_part_22 (by decide) ?_
    exact W.iret (v := (-1)) hx hb hr (fun t ht hW => ⟨(-1), rfl, (by rcases a_3o with a_3o | a_3o | a_3o <;> simp_all), ht⟩) (fun _ h9 => by cases h9) dX9_part_37
  refine tp_i (y := a2) k_2 ?_
  refine lv_istore (lv' := [(4, .int a2), (0, .ref h0), (1, .int a1), (2, .int a2), (3, .int a3)]) hx hb dX9_part_6 hl (by decide) rfl (fun ls hl => ?_)
  refine lv_iload hx hb dX9_part_8 (lv_at hl 0 rfl) ?_
  refine lv_if_lt (tgt := 21) hx hb dX9_part_10 (by decide) (fun c_7 => absurd c_7 (a_3)) (fun c_7 => ?_)
  refine lv_aload_n hx hb dX9_part_13 rfl (lv_at hl 1 rfl) ?_
  refine lv_iload_n hx hb dX9_part_14 rfl (lv_at hl 4 rfl) ?_
  refine vp_callSi (W.runV (As := [.int a3]) (rest := []) ⟨hx, hb, hml, hown, hts⟩ (s_X9_isLot l D ws tys h0 k0 _ a3 e0 f3) (cwV 1 hts gX9_part_X9_isLot rfl rfl rfl (by decide +kernel) ⟨Nat.le_of_ble_eq_true rfl, Nat.le_of_ble_eq_true rfl⟩) ⟨fun a U g mk q => ⟨q.1, q.2.1, va_K.moved (u := U) (U := U.calling g mk a) (Vm.Alike.refl U.vm) q.2.2⟩, va_recv hK hP (ci := 9) (q0 := k0) rfl e0, fun U hU hW => ⟨rfl, by rw [hU]; exact hP, va_K.moved hW.alike hK⟩⟩ rfl rfl hl.1 rfl (lv_room (Nat.le_of_ble_eq_true rfl)) dX9_part_15 ⟨Nat.le_of_ble_eq_true rfl, Nat.le_of_ble_eq_true rfl⟩) (fun r_8 k_9 => ?_)
  subst k_9
  refine lv_if_ne (tgt := 25) hx hb dX9_part_18 (by decide) (fun c_10 => absurd (by decide) c_10) (fun c_10 => ?_)
  refine lv_iconst (v := (-1)) hx hb dX9_part_21 (by decide) ?_
  refine lv_goto (tgt := 37) hx hb dX9_part_22 (by decide) ?_
  exact W.iret (v := (-1)) hx hb hr (fun t ht hW => ⟨(-1), rfl, (by first | rfl | (simp_all; done) | simp [z_5, a_3, b_4, c_7, c_10]), ht⟩) (fun _ h9 => by cases h9) dX9_part_37
set_option maxHeartbeats 4000000 in
set_option maxRecDepth 100000 in
theorem s_X9_isMeasure (l : Launch) (a1 : Int32) : Met l yX9_isMeasure wsX9_isMeasure ({ frames := 1, cells := 0, slots := 0, locals := 22 }) (va_Pc [.int a1] (fun _ => True)) (vp_Si (fun r => r = 0 ∨ r = 1)) 0 0 (fun _ => False) := by
  refine Met.ofW (cc := cX9_isMeasure) (maxL := 1) (ret := (some .boolean)) (by decide) rfl ?_
  intro p e s m args below meth c s₁ B hml hv
  obtain ⟨rfl, -⟩ := hv
  have hx := B.exec
  have hb := B.bytes
  have hr := B.returns
  have hts := atoms_spec (ws := wsX9_isMeasure) B.pre
  have hown : s.vm.findClass RX9 = some m.cls := findClass_of_methodNamed B.named
  have hlocks := B.notSynchronized
  have hl := lv_entry ([.int a1]) (n := 1) (Nat.le_of_ble_eq_true rfl)
  rw [lg_entry_eq]
  generalize (lg_sl ([.int a1]) ++ List.replicate (1 - (lg_sl ([.int a1])).length) Slot.unset).toArray = ls at hl ⊢
  have hl : lv_has ls 1 [(0, .int a1)] := hl
  refine lv_iload_n hx hb dX9_isMeasure_0 rfl (lv_at hl 0 rfl) ?_
  refine lv_iconst (v := 0) hx hb dX9_isMeasure_1 (by decide) ?_
  refine lv_iconst (v := 2) hx hb dX9_isMeasure_2 (by decide) ?_
  refine vp_callSi (W.runS (As := [.int a1, .int 0, .int 2]) (rest := []) ⟨hx, hb, hml, hown, hts⟩ (s_X9_is l a1 0 2) (va_cwS 3 hts gX9_isMeasure_X9_is rfl rfl rfl (by decide +kernel) ⟨Nat.le_of_ble_eq_true rfl, Nat.le_of_ble_eq_true rfl⟩) ⟨fun a U g mk q => q, fun U hU hW => ⟨rfl, trivial⟩⟩ rfl rfl hl.1 rfl (lv_room (Nat.le_of_ble_eq_true rfl)) dX9_isMeasure_3 ⟨Nat.le_of_ble_eq_true rfl, Nat.le_of_ble_eq_true rfl⟩) (fun r_1 k_2 => ?_)
  rcases k_2 with ⟨rfl, -⟩ | ⟨rfl, -, -⟩
  · refine lv_if_ne (tgt := 42) hx hb dX9_isMeasure_6 (by decide) (fun c_3 => absurd (by decide) c_3) (fun c_3 => ?_)
    refine lv_iload_n hx hb dX9_isMeasure_9 rfl (lv_at hl 0 rfl) ?_
    refine lv_bipush (v := 10) hx hb dX9_isMeasure_10 (by decide) ?_
    refine lv_bipush (v := 14) hx hb dX9_isMeasure_12 (by decide) ?_
    refine vp_callSi (W.runS (As := [.int a1, .int 10, .int 14]) (rest := []) ⟨hx, hb, hml, hown, hts⟩ (s_X9_is l a1 10 14) (va_cwS 3 hts gX9_isMeasure_X9_is rfl rfl rfl (by decide +kernel) ⟨Nat.le_of_ble_eq_true rfl, Nat.le_of_ble_eq_true rfl⟩) ⟨fun a U g mk q => q, fun U hU hW => ⟨rfl, trivial⟩⟩ rfl rfl hl.1 rfl (lv_room (Nat.le_of_ble_eq_true rfl)) dX9_isMeasure_14 ⟨Nat.le_of_ble_eq_true rfl, Nat.le_of_ble_eq_true rfl⟩) (fun r_4 k_5 => ?_)
    rcases k_5 with ⟨rfl, -⟩ | ⟨rfl, -, -⟩
    · refine lv_if_ne (tgt := 42) hx hb dX9_isMeasure_17 (by decide) (fun c_6 => absurd (by decide) c_6) (fun c_6 => ?_)
      refine lv_iload_n hx hb dX9_isMeasure_20 rfl (lv_at hl 0 rfl) ?_
      refine lv_bipush (v := 20) hx hb dX9_isMeasure_21 (by decide) ?_
      refine lv_bipush (v := 24) hx hb dX9_isMeasure_23 (by decide) ?_
      refine vp_callSi (W.runS (As := [.int a1, .int 20, .int 24]) (rest := []) ⟨hx, hb, hml, hown, hts⟩ (s_X9_is l a1 20 24) (va_cwS 3 hts gX9_isMeasure_X9_is rfl rfl rfl (by decide +kernel) ⟨Nat.le_of_ble_eq_true rfl, Nat.le_of_ble_eq_true rfl⟩) ⟨fun a U g mk q => q, fun U hU hW => ⟨rfl, trivial⟩⟩ rfl rfl hl.1 rfl (lv_room (Nat.le_of_ble_eq_true rfl)) dX9_isMeasure_25 ⟨Nat.le_of_ble_eq_true rfl, Nat.le_of_ble_eq_true rfl⟩) (fun r_7 k_8 => ?_)
      rcases k_8 with ⟨rfl, -⟩ | ⟨rfl, -, -⟩
      · refine lv_if_ne (tgt := 42) hx hb dX9_isMeasure_28 (by decide) (fun c_9 => absurd (by decide) c_9) (fun c_9 => ?_)
        refine lv_iload_n hx hb dX9_isMeasure_31 rfl (lv_at hl 0 rfl) ?_
        refine lv_bipush (v := 30) hx hb dX9_isMeasure_32 (by decide) ?_
        refine lv_bipush (v := 33) hx hb dX9_isMeasure_34 (by decide) ?_
        refine vp_callSi (W.runS (As := [.int a1, .int 30, .int 33]) (rest := []) ⟨hx, hb, hml, hown, hts⟩ (s_X9_is l a1 30 33) (va_cwS 3 hts gX9_isMeasure_X9_is rfl rfl rfl (by decide +kernel) ⟨Nat.le_of_ble_eq_true rfl, Nat.le_of_ble_eq_true rfl⟩) ⟨fun a U g mk q => q, fun U hU hW => ⟨rfl, trivial⟩⟩ rfl rfl hl.1 rfl (lv_room (Nat.le_of_ble_eq_true rfl)) dX9_isMeasure_36 ⟨Nat.le_of_ble_eq_true rfl, Nat.le_of_ble_eq_true rfl⟩) (fun r_10 k_11 => ?_)
        rcases k_11 with ⟨rfl, -⟩ | ⟨rfl, -, -⟩
        · refine lv_if_eq (tgt := 46) hx hb dX9_isMeasure_39 (by decide) (fun c_12 => ?_) (fun c_12 => absurd (by decide) c_12)
          refine lv_iconst (v := 0) hx hb dX9_isMeasure_46 (by decide) ?_
          exact W.zret (v := 0) hx hb hr rfl (fun t ht hW => ⟨0, rfl, Or.inl rfl, ht⟩) (fun _ h9 => by cases h9) dX9_isMeasure_47
        refine lv_if_eq (tgt := 46) hx hb dX9_isMeasure_39 (by decide) (fun c_13 => absurd c_13 (by decide)) (fun c_13 => ?_)
        refine lv_iconst (v := 1) hx hb dX9_isMeasure_42 (by decide) ?_
        refine lv_goto (tgt := 47) hx hb dX9_isMeasure_43 (by decide) ?_
        exact W.zret (v := 1) hx hb hr rfl (fun t ht hW => ⟨1, rfl, Or.inr rfl, ht⟩) (fun _ h9 => by cases h9) dX9_isMeasure_47
      refine lv_if_ne (tgt := 42) hx hb dX9_isMeasure_28 (by decide) (fun c_14 => ?_) (fun c_14 => absurd c_14 (by decide))
      refine lv_iconst (v := 1) hx hb dX9_isMeasure_42 (by decide) ?_
      refine lv_goto (tgt := 47) hx hb dX9_isMeasure_43 (by decide) ?_
      exact W.zret (v := 1) hx hb hr rfl (fun t ht hW => ⟨1, rfl, Or.inr rfl, ht⟩) (fun _ h9 => by cases h9) dX9_isMeasure_47
    refine lv_if_ne (tgt := 42) hx hb dX9_isMeasure_17 (by decide) (fun c_15 => ?_) (fun c_15 => absurd c_15 (by decide))
    refine lv_iconst (v := 1) hx hb dX9_isMeasure_42 (by decide) ?_
    refine lv_goto (tgt := 47) hx hb dX9_isMeasure_43 (by decide) ?_
    exact W.zret (v := 1) hx hb hr rfl (fun t ht hW => ⟨1, rfl, Or.inr rfl, ht⟩) (fun _ h9 => by cases h9) dX9_isMeasure_47
  refine lv_if_ne (tgt := 42) hx hb dX9_isMeasure_6 (by decide) (fun c_16 => ?_) (fun c_16 => absurd c_16 (by decide))
  refine lv_iconst (v := 1) hx hb dX9_isMeasure_42 (by decide) ?_
  refine lv_goto (tgt := 47) hx hb dX9_isMeasure_43 (by decide) ?_
  exact W.zret (v := 1) hx hb hr rfl (fun t ht hW => ⟨1, rfl, Or.inr rfl, ht⟩) (fun _ h9 => by cases h9) dX9_isMeasure_47
set_option maxHeartbeats 4000000 in
set_option maxRecDepth 100000 in
theorem s_X9_measure (l : Launch) (D : va_G) (ws : va_W) (tys : List (ClassId × FieldType)) (h0 : Nat) (X : MF ws tys h0) (a1 a2 a3 : Int32) : Met l yX9_measure wsX9_measure ({ frames := 2, cells := 0, slots := 0, locals := 42 }) (va_Pc [.ref h0, .int a1, .int a2, .int a3] (fun U => va_P D vwCl ws U.heap ∧ va_K D vwCl tys U)) (vp_Si (fun r => r = (-1))) 0 0 (fun _ => False) := by
  refine Met.ofW (cc := cX9_measure) (maxL := 5) (ret := (some .int)) (by decide) rfl ?_
  intro p e s m args below meth c s₁ B hml hv
  obtain ⟨rfl, hP, hK⟩ := hv
  have hx := B.exec
  have hb := B.bytes
  have hr := B.returns
  have hts := atoms_spec (ws := wsX9_measure) B.pre
  have hown : s.vm.findClass RX9 = some m.cls := findClass_of_methodNamed B.named
  have hlocks := B.notSynchronized
  have hl := lv_entry ([.ref h0, .int a1, .int a2, .int a3]) (n := 5) (Nat.le_of_ble_eq_true rfl)
  rw [lg_entry_eq]
  generalize (lg_sl ([.ref h0, .int a1, .int a2, .int a3]) ++ List.replicate (5 - (lg_sl ([.ref h0, .int a1, .int a2, .int a3])).length) Slot.unset).toArray = ls at hl ⊢
  have hl : lv_has ls 5 [(0, .ref h0), (1, .int a1), (2, .int a2), (3, .int a3)] := hl
  have X0 := X
  obtain ⟨k0, ah, ar, ap, kh, kr, kp, fs, ch, cr, cp, th, tr, tp, e0, f2, f3, f13, f14, f21, f22, f35, f43, f10, f11, f12, eh, uh, er, ur, ep, up⟩ := X
  refine lv_aload_n hx hb dX9_measure_0 rfl (lv_at hl 0 rfl) ?_
  refine lv_iload_n hx hb dX9_measure_1 rfl (lv_at hl 1 rfl) ?_
  refine lv_iload_n hx hb dX9_measure_2 rfl (lv_at hl 2 rfl) ?_
  refine vp_callSi (W.runV (As := [.int a1, .int a2]) (rest := []) ⟨hx, hb, hml, hown, hts⟩ (s_X9_row l D ws tys h0 k0 _ a1 a2 e0 f13) (cwV 2 hts gX9_measure_X9_row rfl rfl rfl (by decide +kernel) ⟨Nat.le_of_ble_eq_true rfl, Nat.le_of_ble_eq_true rfl⟩) ⟨fun a U g mk q => ⟨q.1, q.2.1, va_K.moved (u := U) (U := U.calling g mk a) (Vm.Alike.refl U.vm) q.2.2⟩, va_recv hK hP (ci := 9) (q0 := k0) rfl e0, fun U hU hW => ⟨rfl, by rw [hU]; exact hP, va_K.moved hW.alike hK⟩⟩ rfl rfl hl.1 rfl (lv_room (Nat.le_of_ble_eq_true rfl)) dX9_measure_3 ⟨Nat.le_of_ble_eq_true rfl, Nat.le_of_ble_eq_true rfl⟩) (fun r_1 k_2 => ?_)
  rcases k_2 with ⟨rfl, a_3o⟩ | ⟨z_5, a_3, b_4, k_2⟩
  · refine lv_istore (lv' := [(4, .int (-1)), (0, .ref h0), (1, .int a1), (2, .int a2), (3, .int a3)]) hx hb dX9_measure_6 hl (by decide) rfl (fun ls hl => ?_)
    refine lv_iload hx hb dX9_measure_8 (lv_at hl 0 rfl) ?_
    refine lv_if_lt (tgt := 29) hx hb dX9_measure_10 (by decide) (fun c_6 => ?_) (fun c_6 => absurd (by decide) c_6)
    refine lv_iconst (v := (-1)) hx hb dX9_measure_29 (by decide) ?_
    exact W.iret (v := (-1)) hx hb hr (fun t ht hW => ⟨(-1), rfl, (by rcases a_3o with a_3o | a_3o | a_3o <;> simp_all), ht⟩) (fun _ h9 => by cases h9) dX9_measure_30
  refine tp_i (y := a2) k_2 ?_
  refine lv_istore (lv' := [(4, .int a2), (0, .ref h0), (1, .int a1), (2, .int a2), (3, .int a3)]) hx hb dX9_measure_6 hl (by decide) rfl (fun ls hl => ?_)
  refine lv_iload hx hb dX9_measure_8 (lv_at hl 0 rfl) ?_
  refine lv_if_lt (tgt := 29) hx hb dX9_measure_10 (by decide) (fun c_7 => absurd c_7 (a_3)) (fun c_7 => ?_)
  refine lv_aload_n hx hb dX9_measure_13 rfl (lv_at hl 1 rfl) ?_
  refine lv_iload hx hb dX9_measure_14 (lv_at hl 0 rfl) ?_
  refine vp_callSi (W.runV (As := [.int a2]) (rest := []) ⟨hx, hb, hml, hown, hts⟩ (s_X9_all l D ws tys h0 k0 _ a2 e0 f3) (cwV 1 hts gX9_measure_X9_all rfl rfl rfl (by decide +kernel) ⟨Nat.le_of_ble_eq_true rfl, Nat.le_of_ble_eq_true rfl⟩) ⟨fun a U g mk q => ⟨q.1, q.2.1, va_K.moved (u := U) (U := U.calling g mk a) (Vm.Alike.refl U.vm) q.2.2⟩, va_recv hK hP (ci := 9) (q0 := k0) rfl e0, fun U hU hW => ⟨rfl, by rw [hU]; exact hP, va_K.moved hW.alike hK⟩⟩ rfl rfl hl.1 rfl (lv_room (Nat.le_of_ble_eq_true rfl)) dX9_measure_16 ⟨Nat.le_of_ble_eq_true rfl, Nat.le_of_ble_eq_true rfl⟩) (fun r_8 k_9 => ?_)
  subst k_9
  refine lv_if_eq (tgt := 29) hx hb dX9_measure_19 (by decide) (fun c_10 => ?_) (fun c_10 => absurd (by decide) c_10)
  refine lv_iconst (v := (-1)) hx hb dX9_measure_29 (by decide) ?_
  exact W.iret (v := (-1)) hx hb hr (fun t ht hW => ⟨(-1), rfl, (by first | rfl | (simp_all; done) | simp [z_5, a_3, b_4, c_7, c_10]), ht⟩) (fun _ h9 => by cases h9) dX9_measure_30
set_option maxHeartbeats 4000000 in
set_option maxRecDepth 100000 in
theorem s_X9_fault (l : Launch) (D : va_G) (ws : va_W) (tys : List (ClassId × FieldType)) (h0 : Nat) (X : MF ws tys h0) (a1 : Int32) : Met l yX9_fault wsX9_fault ({ frames := 0, cells := 0, slots := 0, locals := 0 }) (va_Pc [.ref h0, .int a1] (fun U => va_P D vwCl ws U.heap ∧ va_K D vwCl tys U)) (vp_Si (fun r => r = if a1 = 0 then 0 else (-1))) 0 0 (fun _ => False) := by
  refine Met.ofW (cc := cX9_fault) (maxL := 2) (ret := (some .int)) (by decide) rfl ?_
  intro p e s m args below meth c s₁ B hml hv
  obtain ⟨rfl, hP, hK⟩ := hv
  have hx := B.exec
  have hb := B.bytes
  have hr := B.returns
  have hts := atoms_spec (ws := wsX9_fault) B.pre
  have hown : s.vm.findClass RX9 = some m.cls := findClass_of_methodNamed B.named
  have hlocks := B.notSynchronized
  have hin9 : ∀ w ∈ u_ws RX9 TX9 44, w ∈ wsX9_fault := (fun _ h9 => List.mem_cons_of_mem _ ((List.mem_append_right _ h9)))
  have hl := lv_entry ([.ref h0, .int a1]) (n := 2) (Nat.le_of_ble_eq_true rfl)
  rw [lg_entry_eq]
  generalize (lg_sl ([.ref h0, .int a1]) ++ List.replicate (2 - (lg_sl ([.ref h0, .int a1])).length) Slot.unset).toArray = ls at hl ⊢
  have hl : lv_has ls 2 [(0, .ref h0), (1, .int a1)] := hl
  have X0 := X
  obtain ⟨k0, ah, ar, ap, kh, kr, kp, fs, ch, cr, cp, th, tr, tp, e0, f2, f3, f13, f14, f21, f22, f35, f43, f10, f11, f12, eh, uh, er, ur, ep, up⟩ := X
  refine lv_iload_n hx hb dX9_fault_0 rfl (lv_at hl 1 rfl) ?_
  refine lv_if_ne (tgt := 11) hx hb dX9_fault_1 (by decide) (fun c_1 => ?_) (fun c_1 => ?_)
  · refine lv_iload_n hx hb dX9_fault_11 rfl (lv_at hl 1 rfl) ?_
    refine lv_iconst (v := 1) hx hb dX9_fault_12 (by decide) ?_
    refine lv_icmp_ne (tgt := 23) hx hb dX9_fault_13 (by decide) (fun c_2 => ?_) (fun c_2 => ?_)
    · refine lv_iconst (v := (-1)) hx hb dX9_fault_23 (by decide) ?_
      exact W.iret (v := (-1)) hx hb hr (fun t ht hW => ⟨(-1), rfl, (by first | rfl | (simp_all; done) | simp [c_1, c_2]), ht⟩) (fun _ h9 => by cases h9) dX9_fault_24
    refine lv_aload_n hx hb dX9_fault_16 rfl (lv_at hl 0 rfl) ?_
    refine va_get (D := D) (ci := 9) (v := .int (-1)) (C := RX9) (T := TX9) (N := 44) hx hb hts hin9 hown hK hP k0 e0 rfl 22 (by decide) (hts (.fieldLink RX9 77 "HoneyHouseModel" "faultPlace" "I") (List.mem_of_getElem? (i := 2) rfl)) (fun _ h9 => h9) f22 dX9_fault_17 ?_
    refine lv_goto (tgt := 24) hx hb dX9_fault_20 (by decide) ?_
    exact W.iret (v := (-1)) hx hb hr (fun t ht hW => ⟨(-1), rfl, (by first | rfl | (simp_all; done) | simp [c_1, c_2]), ht⟩) (fun _ h9 => by cases h9) dX9_fault_24
  refine lv_aload_n hx hb dX9_fault_4 rfl (lv_at hl 0 rfl) ?_
  refine va_get (D := D) (ci := 9) (v := .int 0) (C := RX9) (T := TX9) (N := 44) hx hb hts hin9 hown hK hP k0 e0 rfl 21 (by decide) (hts (.fieldLink RX9 74 "HoneyHouseModel" "faultKind" "I") (List.mem_of_getElem? (i := 1) rfl)) (fun _ h9 => h9) f21 dX9_fault_5 ?_
  refine lv_goto (tgt := 24) hx hb dX9_fault_8 (by decide) ?_
  exact W.iret (v := 0) hx hb hr (fun t ht hW => ⟨0, rfl, (by first | rfl | (simp_all; done) | simp [c_1]), ht⟩) (fun _ h9 => by cases h9) dX9_fault_24
set_option maxHeartbeats 4000000 in
set_option maxRecDepth 100000 in
theorem s_X9_shut (l : Launch) (D : va_G) (ws : va_W) (tys : List (ClassId × FieldType)) (h0 : Nat) (X : MF ws tys h0) (a1 a2 : Int32) : Met l yX9_shut wsX9_shut ({ frames := 0, cells := 0, slots := 0, locals := 0 }) (va_Pc [.ref h0, .int a1, .int a2] (fun U => va_P D vwCl ws U.heap ∧ va_K D vwCl tys U)) (vp_Si (fun r => r = 0)) 0 0 (fun _ => False) := by
  refine Met.ofW (cc := cX9_shut) (maxL := 3) (ret := (some .boolean)) (by decide) rfl ?_
  intro p e s m args below meth c s₁ B hml hv
  obtain ⟨rfl, hP, hK⟩ := hv
  have hx := B.exec
  have hb := B.bytes
  have hr := B.returns
  have hts := atoms_spec (ws := wsX9_shut) B.pre
  have hown : s.vm.findClass RX9 = some m.cls := findClass_of_methodNamed B.named
  have hlocks := B.notSynchronized
  have hin9 : ∀ w ∈ u_ws RX9 TX9 44, w ∈ wsX9_shut := (fun _ h9 => List.mem_cons_of_mem _ ((List.mem_append_right _ h9)))
  have hl := lv_entry ([.ref h0, .int a1, .int a2]) (n := 3) (Nat.le_of_ble_eq_true rfl)
  rw [lg_entry_eq]
  generalize (lg_sl ([.ref h0, .int a1, .int a2]) ++ List.replicate (3 - (lg_sl ([.ref h0, .int a1, .int a2])).length) Slot.unset).toArray = ls at hl ⊢
  have hl : lv_has ls 3 [(0, .ref h0), (1, .int a1), (2, .int a2)] := hl
  have X0 := X
  obtain ⟨k0, ah, ar, ap, kh, kr, kp, fs, ch, cr, cp, th, tr, tp, e0, f2, f3, f13, f14, f21, f22, f35, f43, f10, f11, f12, eh, uh, er, ur, ep, up⟩ := X
  refine lv_iload_n hx hb dX9_shut_0 rfl (lv_at hl 1 rfl) ?_
  refine lv_if_lt (tgt := 32) hx hb dX9_shut_1 (by decide) (fun c_1 => ?_) (fun c_1 => ?_)
  · refine lv_iconst (v := 0) hx hb dX9_shut_32 (by decide) ?_
    exact W.zret (v := 0) hx hb hr rfl (fun t ht hW => ⟨0, rfl, (by first | rfl | (simp_all; done) | simp [c_1]), ht⟩) (fun _ h9 => by cases h9) dX9_shut_33
  refine lv_iload_n hx hb dX9_shut_4 rfl (lv_at hl 1 rfl) ?_
  refine lv_aload_n hx hb dX9_shut_5 rfl (lv_at hl 0 rfl) ?_
  refine va_get (D := D) (ci := 9) (v := .int 0) (C := RX9) (T := TX9) (N := 44) hx hb hts hin9 hown hK hP k0 e0 rfl 14 (by decide) (hts (.fieldLink RX9 53 "HoneyHouseModel" "rules" "I") (List.mem_of_getElem? (i := 1) rfl)) (fun _ h9 => h9) f14 dX9_shut_6 ?_
  refine lv_icmp_ge (tgt := 32) hx hb dX9_shut_9 (by decide) (fun c_2 => ?_) (fun c_2 => absurd (i_nlt c_1) c_2)
  refine lv_iconst (v := 0) hx hb dX9_shut_32 (by decide) ?_
  exact W.zret (v := 0) hx hb hr rfl (fun t ht hW => ⟨0, rfl, (by first | rfl | (simp_all; done) | simp [c_1, c_2]), ht⟩) (fun _ h9 => by cases h9) dX9_shut_33
set_option maxHeartbeats 4000000 in
set_option maxRecDepth 100000 in
theorem s_X9_says (l : Launch) (D : va_G) (ws : va_W) (tys : List (ClassId × FieldType)) (h0 : Nat) (X : MF ws tys h0) (a1 a2 a3 : Int32) : Met l yX9_says wsX9_says ({ frames := 2, cells := 0, slots := 0, locals := 42 }) (va_Pc [.ref h0, .int a1, .int a2, .int a3] (fun U => va_P D vwCl ws U.heap ∧ va_K D vwCl tys U)) (vp_Si (fun r => r = (-1))) 0 0 (fun _ => False) := by
  refine Met.ofW (cc := cX9_says) (maxL := 6) (ret := (some .int)) (by decide) rfl ?_
  intro p e s m args below meth c s₁ B hml hv
  obtain ⟨rfl, hP, hK⟩ := hv
  have hx := B.exec
  have hb := B.bytes
  have hr := B.returns
  have hts := atoms_spec (ws := wsX9_says) B.pre
  have hown : s.vm.findClass RX9 = some m.cls := findClass_of_methodNamed B.named
  have hlocks := B.notSynchronized
  have hin9 : ∀ w ∈ u_ws RX9 TX9 44, w ∈ wsX9_says := (fun _ h9 => List.mem_cons_of_mem _ ((List.mem_append_right _ h9)))
  have hl := lv_entry ([.ref h0, .int a1, .int a2, .int a3]) (n := 6) (Nat.le_of_ble_eq_true rfl)
  rw [lg_entry_eq]
  generalize (lg_sl ([.ref h0, .int a1, .int a2, .int a3]) ++ List.replicate (6 - (lg_sl ([.ref h0, .int a1, .int a2, .int a3])).length) Slot.unset).toArray = ls at hl ⊢
  have hl : lv_has ls 6 [(0, .ref h0), (1, .int a1), (2, .int a2), (3, .int a3)] := hl
  have X0 := X
  obtain ⟨k0, ah, ar, ap, kh, kr, kp, fs, ch, cr, cp, th, tr, tp, e0, f2, f3, f13, f14, f21, f22, f35, f43, f10, f11, f12, eh, uh, er, ur, ep, up⟩ := X
  refine lv_aload_n hx hb dX9_says_0 rfl (lv_at hl 0 rfl) ?_
  refine lv_iload_n hx hb dX9_says_1 rfl (lv_at hl 2 rfl) ?_
  refine lv_iload_n hx hb dX9_says_2 rfl (lv_at hl 3 rfl) ?_
  refine vp_callSi (W.runV (As := [.int a2, .int a3]) (rest := []) ⟨hx, hb, hml, hown, hts⟩ (s_X9_row l D ws tys h0 k0 _ a2 a3 e0 f13) (cwV 2 hts gX9_says_X9_row rfl rfl rfl (by decide +kernel) ⟨Nat.le_of_ble_eq_true rfl, Nat.le_of_ble_eq_true rfl⟩) ⟨fun a U g mk q => ⟨q.1, q.2.1, va_K.moved (u := U) (U := U.calling g mk a) (Vm.Alike.refl U.vm) q.2.2⟩, va_recv hK hP (ci := 9) (q0 := k0) rfl e0, fun U hU hW => ⟨rfl, by rw [hU]; exact hP, va_K.moved hW.alike hK⟩⟩ rfl rfl hl.1 rfl (lv_room (Nat.le_of_ble_eq_true rfl)) dX9_says_3 ⟨Nat.le_of_ble_eq_true rfl, Nat.le_of_ble_eq_true rfl⟩) (fun r_1 k_2 => ?_)
  rcases k_2 with ⟨rfl, a_3o⟩ | ⟨z_5, a_3, b_4, k_2⟩
  · refine lv_istore (lv' := [(4, .int (-1)), (0, .ref h0), (1, .int a1), (2, .int a2), (3, .int a3)]) hx hb dX9_says_6 hl (by decide) rfl (fun ls hl => ?_)
    refine lv_iload_n hx hb dX9_says_8 rfl (lv_at hl 2 rfl) ?_
    refine lv_if_lt (tgt := 34) hx hb dX9_says_9 (by decide) (fun c_6 => ?_) (fun c_6 => ?_)
    · refine lv_iconst (v := (-1)) hx hb dX9_says_34 (by decide) ?_
      exact W.iret (v := (-1)) hx hb hr (fun t ht hW => ⟨(-1), rfl, (by rcases a_3o with a_3o | a_3o | a_3o <;> simp_all), ht⟩) (fun _ h9 => by cases h9) dX9_says_35
    refine lv_iload_n hx hb dX9_says_12 rfl (lv_at hl 2 rfl) ?_
    refine lv_aload_n hx hb dX9_says_13 rfl (lv_at hl 1 rfl) ?_
    refine va_get (D := D) (ci := 9) (v := .int 0) (C := RX9) (T := TX9) (N := 44) hx hb hts hin9 hown hK hP k0 e0 rfl 14 (by decide) (hts (.fieldLink RX9 53 "HoneyHouseModel" "rules" "I") (List.mem_of_getElem? (i := 1) rfl)) (fun _ h9 => h9) f14 dX9_says_14 ?_
    refine lv_icmp_ge (tgt := 34) hx hb dX9_says_17 (by decide) (fun c_7 => ?_) (fun c_7 => absurd (i_nlt c_6) c_7)
    refine lv_iconst (v := (-1)) hx hb dX9_says_34 (by decide) ?_
    exact W.iret (v := (-1)) hx hb hr (fun t ht hW => ⟨(-1), rfl, (by rcases a_3o with a_3o | a_3o | a_3o <;> simp_all), ht⟩) (fun _ h9 => by cases h9) dX9_says_35
  refine tp_i (y := a3) k_2 ?_
  refine lv_istore (lv' := [(4, .int a3), (0, .ref h0), (1, .int a1), (2, .int a2), (3, .int a3)]) hx hb dX9_says_6 hl (by decide) rfl (fun ls hl => ?_)
  refine lv_iload_n hx hb dX9_says_8 rfl (lv_at hl 2 rfl) ?_
  refine lv_if_lt (tgt := 34) hx hb dX9_says_9 (by decide) (fun c_8 => ?_) (fun c_8 => ?_)
  · refine lv_iconst (v := (-1)) hx hb dX9_says_34 (by decide) ?_
    exact W.iret (v := (-1)) hx hb hr (fun t ht hW => ⟨(-1), rfl, (by first | rfl | (simp_all; done) | simp [z_5, a_3, b_4, c_8]), ht⟩) (fun _ h9 => by cases h9) dX9_says_35
  refine lv_iload_n hx hb dX9_says_12 rfl (lv_at hl 2 rfl) ?_
  refine lv_aload_n hx hb dX9_says_13 rfl (lv_at hl 1 rfl) ?_
  refine va_get (D := D) (ci := 9) (v := .int 0) (C := RX9) (T := TX9) (N := 44) hx hb hts hin9 hown hK hP k0 e0 rfl 14 (by decide) (hts (.fieldLink RX9 53 "HoneyHouseModel" "rules" "I") (List.mem_of_getElem? (i := 1) rfl)) (fun _ h9 => h9) f14 dX9_says_14 ?_
  refine lv_icmp_ge (tgt := 34) hx hb dX9_says_17 (by decide) (fun c_9 => ?_) (fun c_9 => absurd (i_nlt c_8) c_9)
  refine lv_iconst (v := (-1)) hx hb dX9_says_34 (by decide) ?_
  exact W.iret (v := (-1)) hx hb hr (fun t ht hW => ⟨(-1), rfl, (by first | rfl | (simp_all; done) | simp [z_5, a_3, b_4, c_8, c_9]), ht⟩) (fun _ h9 => by cases h9) dX9_says_35
set_option maxHeartbeats 4000000 in
set_option maxRecDepth 100000 in
theorem s_X9_name (l : Launch) (D : va_G) (ws : va_W) (tys : List (ClassId × FieldType)) (h0 : Nat) (X : MF ws tys h0) (a1 a2 a3 : Int32) : Met l yX9_name_ wsX9_name_ ({ frames := 2, cells := 0, slots := 0, locals := 42 }) (va_Pc [.ref h0, .int a1, .int a2, .int a3] (fun U => va_P D vwCl ws U.heap ∧ va_K D vwCl tys U)) (vp_Si (fun r => r = (-1))) 0 0 (fun _ => False) := by
  refine Met.ofW (cc := cX9_name_) (maxL := 6) (ret := (some .int)) (by decide) rfl ?_
  intro p e s m args below meth c s₁ B hml hv
  obtain ⟨rfl, hP, hK⟩ := hv
  have hx := B.exec
  have hb := B.bytes
  have hr := B.returns
  have hts := atoms_spec (ws := wsX9_name_) B.pre
  have hown : s.vm.findClass RX9 = some m.cls := findClass_of_methodNamed B.named
  have hlocks := B.notSynchronized
  have hl := lv_entry ([.ref h0, .int a1, .int a2, .int a3]) (n := 6) (Nat.le_of_ble_eq_true rfl)
  rw [lg_entry_eq]
  generalize (lg_sl ([.ref h0, .int a1, .int a2, .int a3]) ++ List.replicate (6 - (lg_sl ([.ref h0, .int a1, .int a2, .int a3])).length) Slot.unset).toArray = ls at hl ⊢
  have hl : lv_has ls 6 [(0, .ref h0), (1, .int a1), (2, .int a2), (3, .int a3)] := hl
  have X0 := X
  obtain ⟨k0, ah, ar, ap, kh, kr, kp, fs, ch, cr, cp, th, tr, tp, e0, f2, f3, f13, f14, f21, f22, f35, f43, f10, f11, f12, eh, uh, er, ur, ep, up⟩ := X
  refine lv_aload_n hx hb dX9_name__0 rfl (lv_at hl 0 rfl) ?_
  refine lv_iload_n hx hb dX9_name__1 rfl (lv_at hl 1 rfl) ?_
  refine lv_iload_n hx hb dX9_name__2 rfl (lv_at hl 2 rfl) ?_
  refine vp_callSi (W.runV (As := [.int a1, .int a2]) (rest := []) ⟨hx, hb, hml, hown, hts⟩ (s_X9_row l D ws tys h0 k0 _ a1 a2 e0 f13) (cwV 2 hts gX9_name__X9_row rfl rfl rfl (by decide +kernel) ⟨Nat.le_of_ble_eq_true rfl, Nat.le_of_ble_eq_true rfl⟩) ⟨fun a U g mk q => ⟨q.1, q.2.1, va_K.moved (u := U) (U := U.calling g mk a) (Vm.Alike.refl U.vm) q.2.2⟩, va_recv hK hP (ci := 9) (q0 := k0) rfl e0, fun U hU hW => ⟨rfl, by rw [hU]; exact hP, va_K.moved hW.alike hK⟩⟩ rfl rfl hl.1 rfl (lv_room (Nat.le_of_ble_eq_true rfl)) dX9_name__3 ⟨Nat.le_of_ble_eq_true rfl, Nat.le_of_ble_eq_true rfl⟩) (fun r_1 k_2 => ?_)
  rcases k_2 with ⟨rfl, a_3o⟩ | ⟨z_5, a_3, b_4, k_2⟩
  · refine lv_istore (lv' := [(4, .int (-1)), (0, .ref h0), (1, .int a1), (2, .int a2), (3, .int a3)]) hx hb dX9_name__6 hl (by decide) rfl (fun ls hl => ?_)
    refine lv_iload hx hb dX9_name__8 (lv_at hl 0 rfl) ?_
    refine lv_if_lt (tgt := 22) hx hb dX9_name__10 (by decide) (fun c_6 => ?_) (fun c_6 => absurd (by decide) c_6)
    refine lv_iconst (v := (-1)) hx hb dX9_name__22 (by decide) ?_
    exact W.iret (v := (-1)) hx hb hr (fun t ht hW => ⟨(-1), rfl, (by rcases a_3o with a_3o | a_3o | a_3o <;> simp_all), ht⟩) (fun _ h9 => by cases h9) dX9_name__23
  refine tp_i (y := a2) k_2 ?_
  refine lv_istore (lv' := [(4, .int a2), (0, .ref h0), (1, .int a1), (2, .int a2), (3, .int a3)]) hx hb dX9_name__6 hl (by decide) rfl (fun ls hl => ?_)
  refine lv_iload hx hb dX9_name__8 (lv_at hl 0 rfl) ?_
  refine lv_if_lt (tgt := 22) hx hb dX9_name__10 (by decide) (fun c_7 => absurd c_7 (a_3)) (fun c_7 => ?_)
  refine lv_aload_n hx hb dX9_name__13 rfl (lv_at hl 1 rfl) ?_
  refine lv_iload hx hb dX9_name__14 (lv_at hl 0 rfl) ?_
  refine vp_callSi (W.runV (As := [.int a2]) (rest := []) ⟨hx, hb, hml, hown, hts⟩ (s_X9_all l D ws tys h0 k0 _ a2 e0 f3) (cwV 1 hts gX9_name__X9_all rfl rfl rfl (by decide +kernel) ⟨Nat.le_of_ble_eq_true rfl, Nat.le_of_ble_eq_true rfl⟩) ⟨fun a U g mk q => ⟨q.1, q.2.1, va_K.moved (u := U) (U := U.calling g mk a) (Vm.Alike.refl U.vm) q.2.2⟩, va_recv hK hP (ci := 9) (q0 := k0) rfl e0, fun U hU hW => ⟨rfl, by rw [hU]; exact hP, va_K.moved hW.alike hK⟩⟩ rfl rfl hl.1 rfl (lv_room (Nat.le_of_ble_eq_true rfl)) dX9_name__16 ⟨Nat.le_of_ble_eq_true rfl, Nat.le_of_ble_eq_true rfl⟩) (fun r_8 k_9 => ?_)
  subst k_9
  refine lv_if_ne (tgt := 24) hx hb dX9_name__19 (by decide) (fun c_10 => absurd (by decide) c_10) (fun c_10 => ?_)
  refine lv_iconst (v := (-1)) hx hb dX9_name__22 (by decide) ?_
  exact W.iret (v := (-1)) hx hb hr (fun t ht hW => ⟨(-1), rfl, (by first | rfl | (simp_all; done) | simp [z_5, a_3, b_4, c_7, c_10]), ht⟩) (fun _ h9 => by cases h9) dX9_name__23
set_option maxHeartbeats 4000000 in
set_option maxRecDepth 100000 in
theorem s_X9_parts (l : Launch) (D : va_G) (ws : va_W) (tys : List (ClassId × FieldType)) (h0 : Nat) (X : MF ws tys h0) (a1 : Int32) : Met l yX9_parts wsX9_parts ({ frames := 0, cells := 0, slots := 0, locals := 0 }) (va_Pc [.ref h0, .int a1] (fun U => va_P D vwCl ws U.heap ∧ va_K D vwCl tys U)) (vp_Si (fun r => r = (-1))) 0 0 (fun _ => False) := by
  refine Met.ofW (cc := cX9_parts) (maxL := 2) (ret := (some .int)) (by decide) rfl ?_
  intro p e s m args below meth c s₁ B hml hv
  obtain ⟨rfl, hP, hK⟩ := hv
  have hx := B.exec
  have hb := B.bytes
  have hr := B.returns
  have hts := atoms_spec (ws := wsX9_parts) B.pre
  have hown : s.vm.findClass RX9 = some m.cls := findClass_of_methodNamed B.named
  have hlocks := B.notSynchronized
  have hin9 : ∀ w ∈ u_ws RX9 TX9 44, w ∈ wsX9_parts := (fun _ h9 => List.mem_cons_of_mem _ ((List.mem_append_right _ h9)))
  have hl := lv_entry ([.ref h0, .int a1]) (n := 2) (Nat.le_of_ble_eq_true rfl)
  rw [lg_entry_eq]
  generalize (lg_sl ([.ref h0, .int a1]) ++ List.replicate (2 - (lg_sl ([.ref h0, .int a1])).length) Slot.unset).toArray = ls at hl ⊢
  have hl : lv_has ls 2 [(0, .ref h0), (1, .int a1)] := hl
  have X0 := X
  obtain ⟨k0, ah, ar, ap, kh, kr, kp, fs, ch, cr, cp, th, tr, tp, e0, f2, f3, f13, f14, f21, f22, f35, f43, f10, f11, f12, eh, uh, er, ur, ep, up⟩ := X
  refine lv_aload_n hx hb dX9_parts_0 rfl (lv_at hl 0 rfl) ?_
  refine va_get (D := D) (ci := 9) (v := .int 0) (C := RX9) (T := TX9) (N := 44) hx hb hts hin9 hown hK hP k0 e0 rfl 35 (by decide) (hts (.fieldLink RX9 117 "HoneyHouseModel" "blended" "Z") (List.mem_of_getElem? (i := 1) rfl)) (fun _ h9 => h9) f35 dX9_parts_1 ?_
  refine lv_if_eq (tgt := 14) hx hb dX9_parts_4 (by decide) (fun c_1 => ?_) (fun c_1 => absurd (by decide) c_1)
  refine lv_iconst (v := (-1)) hx hb dX9_parts_14 (by decide) ?_
  refine lv_goto (tgt := 24) hx hb dX9_parts_15 (by decide) ?_
  exact W.iret (v := (-1)) hx hb hr (fun t ht hW => ⟨(-1), rfl, (by first | rfl | (simp_all; done) | simp [c_1]), ht⟩) (fun _ h9 => by cases h9) dX9_parts_24
set_option maxHeartbeats 4000000 in
set_option maxRecDepth 100000 in
theorem s_X9_found (l : Launch) (D : va_G) (ws : va_W) (tys : List (ClassId × FieldType)) (h0 : Nat) (X : MF ws tys h0) (a1 : Int32) : Met l yX9_found wsX9_found ({ frames := 0, cells := 0, slots := 0, locals := 0 }) (va_Pc [.ref h0, .int a1] (fun U => va_P D vwCl ws U.heap ∧ va_K D vwCl tys U)) (vp_Si (fun r => r = (-1))) 0 0 (fun _ => False) := by
  refine Met.ofW (cc := cX9_found) (maxL := 2) (ret := (some .int)) (by decide) rfl ?_
  intro p e s m args below meth c s₁ B hml hv
  obtain ⟨rfl, hP, hK⟩ := hv
  have hx := B.exec
  have hb := B.bytes
  have hr := B.returns
  have hts := atoms_spec (ws := wsX9_found) B.pre
  have hown : s.vm.findClass RX9 = some m.cls := findClass_of_methodNamed B.named
  have hlocks := B.notSynchronized
  have hin9 : ∀ w ∈ u_ws RX9 TX9 44, w ∈ wsX9_found := (fun _ h9 => List.mem_cons_of_mem _ ((List.mem_append_right _ h9)))
  have hl := lv_entry ([.ref h0, .int a1]) (n := 2) (Nat.le_of_ble_eq_true rfl)
  rw [lg_entry_eq]
  generalize (lg_sl ([.ref h0, .int a1]) ++ List.replicate (2 - (lg_sl ([.ref h0, .int a1])).length) Slot.unset).toArray = ls at hl ⊢
  have hl : lv_has ls 2 [(0, .ref h0), (1, .int a1)] := hl
  have X0 := X
  obtain ⟨k0, ah, ar, ap, kh, kr, kp, fs, ch, cr, cp, th, tr, tp, e0, f2, f3, f13, f14, f21, f22, f35, f43, f10, f11, f12, eh, uh, er, ur, ep, up⟩ := X
  refine lv_iload_n hx hb dX9_found_0 rfl (lv_at hl 1 rfl) ?_
  refine lv_if_lt (tgt := 12) hx hb dX9_found_1 (by decide) (fun c_1 => ?_) (fun c_1 => ?_)
  · refine lv_iconst (v := (-1)) hx hb dX9_found_12 (by decide) ?_
    refine lv_goto (tgt := 22) hx hb dX9_found_13 (by decide) ?_
    exact W.iret (v := (-1)) hx hb hr (fun t ht hW => ⟨(-1), rfl, (by first | rfl | (simp_all; done) | simp [c_1]), ht⟩) (fun _ h9 => by cases h9) dX9_found_22
  refine lv_iload_n hx hb dX9_found_4 rfl (lv_at hl 1 rfl) ?_
  refine lv_aload_n hx hb dX9_found_5 rfl (lv_at hl 0 rfl) ?_
  refine va_get (D := D) (ci := 9) (v := .int 0) (C := RX9) (T := TX9) (N := 44) hx hb hts hin9 hown hK hP k0 e0 rfl 43 (by decide) (hts (.fieldLink RX9 142 "HoneyHouseModel" "founds" "I") (List.mem_of_getElem? (i := 1) rfl)) (fun _ h9 => h9) f43 dX9_found_6 ?_
  refine lv_icmp_lt (tgt := 16) hx hb dX9_found_9 (by decide) (fun c_2 => absurd c_2 (i_ge0 c_1)) (fun c_2 => ?_)
  refine lv_iconst (v := (-1)) hx hb dX9_found_12 (by decide) ?_
  refine lv_goto (tgt := 22) hx hb dX9_found_13 (by decide) ?_
  exact W.iret (v := (-1)) hx hb hr (fun t ht hW => ⟨(-1), rfl, (by first | rfl | (simp_all; done) | simp [c_1, c_2]), ht⟩) (fun _ h9 => by cases h9) dX9_found_22
set_option maxHeartbeats 4000000 in
set_option maxRecDepth 100000 in
theorem s_X9_count (l : Launch) (D : va_G) (ws : va_W) (tys : List (ClassId × FieldType)) (h0 : Nat) (X : MF ws tys h0) (a1 : Int32) : Met l yX9_count wsX9_count ({ frames := 0, cells := 0, slots := 0, locals := 0 }) (va_Pc [.ref h0, .int a1] (fun U => va_P D vwCl ws U.heap ∧ va_K D vwCl tys U)) (vp_Si (fun r => r = if a1 = 0 ∨ a1 = 1 ∨ a1 = 2 ∨ a1 = 3 then 0 else (-1))) 0 0 (fun _ => False) := by
  refine Met.ofW (cc := cX9_count) (maxL := 2) (ret := (some .int)) (by decide) rfl ?_
  intro p e s m args below meth c s₁ B hml hv
  obtain ⟨rfl, hP, hK⟩ := hv
  have hx := B.exec
  have hb := B.bytes
  have hr := B.returns
  have hts := atoms_spec (ws := wsX9_count) B.pre
  have hown : s.vm.findClass RX9 = some m.cls := findClass_of_methodNamed B.named
  have hlocks := B.notSynchronized
  have hin9 : ∀ w ∈ u_ws RX9 TX9 44, w ∈ wsX9_count := (fun _ h9 => List.mem_cons_of_mem _ ((List.mem_append_right _ h9)))
  have hl := lv_entry ([.ref h0, .int a1]) (n := 2) (Nat.le_of_ble_eq_true rfl)
  rw [lg_entry_eq]
  generalize (lg_sl ([.ref h0, .int a1]) ++ List.replicate (2 - (lg_sl ([.ref h0, .int a1])).length) Slot.unset).toArray = ls at hl ⊢
  have hl : lv_has ls 2 [(0, .ref h0), (1, .int a1)] := hl
  have X0 := X
  obtain ⟨k0, ah, ar, ap, kh, kr, kp, fs, ch, cr, cp, th, tr, tp, e0, f2, f3, f13, f14, f21, f22, f35, f43, f10, f11, f12, eh, uh, er, ur, ep, up⟩ := X
  refine lv_iload_n hx hb dX9_count_0 rfl (lv_at hl 1 rfl) ?_
  by_cases c_1 : a1 = 0
  · refine lv_tableIn (off := 31) (tgt := 32) hx hb dX9_count_1 (by rw [c_1]; decide) (by rw [c_1]; decide) (by rw [c_1]; rfl) (by decide) ?_
    refine lv_aload_n hx hb dX9_count_32 rfl (lv_at hl 0 rfl) ?_
    refine va_get (D := D) (ci := 9) (v := .int 0) (C := RX9) (T := TX9) (N := 44) hx hb hts hin9 hown hK hP k0 e0 rfl 3 (by decide) (hts (.fieldLink RX9 20 "HoneyHouseModel" "lots" "I") (List.mem_of_getElem? (i := 1) rfl)) (fun _ h9 => h9) f3 dX9_count_33 ?_
    exact W.iret (v := 0) hx hb hr (fun t ht hW => ⟨0, rfl, (by first | rfl | (simp_all; done) | simp [c_1]), ht⟩) (fun _ h9 => by cases h9) dX9_count_36
  by_cases c_2 : a1 = 1
  · refine lv_tableIn (off := 36) (tgt := 37) hx hb dX9_count_1 (by rw [c_2]; decide) (by rw [c_2]; decide) (by rw [c_2]; rfl) (by decide) ?_
    refine lv_aload_n hx hb dX9_count_37 rfl (lv_at hl 0 rfl) ?_
    refine va_get (D := D) (ci := 9) (v := .int 0) (C := RX9) (T := TX9) (N := 44) hx hb hts hin9 hown hK hP k0 e0 rfl 13 (by decide) (hts (.fieldLink RX9 50 "HoneyHouseModel" "batches" "I") (List.mem_of_getElem? (i := 2) rfl)) (fun _ h9 => h9) f13 dX9_count_38 ?_
    exact W.iret (v := 0) hx hb hr (fun t ht hW => ⟨0, rfl, (by first | rfl | (simp_all; done) | simp [c_1, c_2]), ht⟩) (fun _ h9 => by cases h9) dX9_count_41
  by_cases c_3 : a1 = 2
  · refine lv_tableIn (off := 41) (tgt := 42) hx hb dX9_count_1 (by rw [c_3]; decide) (by rw [c_3]; decide) (by rw [c_3]; rfl) (by decide) ?_
    refine lv_aload_n hx hb dX9_count_42 rfl (lv_at hl 0 rfl) ?_
    refine va_get (D := D) (ci := 9) (v := .int 0) (C := RX9) (T := TX9) (N := 44) hx hb hts hin9 hown hK hP k0 e0 rfl 14 (by decide) (hts (.fieldLink RX9 53 "HoneyHouseModel" "rules" "I") (List.mem_of_getElem? (i := 3) rfl)) (fun _ h9 => h9) f14 dX9_count_43 ?_
    exact W.iret (v := 0) hx hb hr (fun t ht hW => ⟨0, rfl, (by first | rfl | (simp_all; done) | simp [c_1, c_2, c_3]), ht⟩) (fun _ h9 => by cases h9) dX9_count_46
  by_cases c_4 : a1 = 3
  · refine lv_tableIn (off := 46) (tgt := 47) hx hb dX9_count_1 (by rw [c_4]; decide) (by rw [c_4]; decide) (by rw [c_4]; rfl) (by decide) ?_
    refine lv_aload_n hx hb dX9_count_47 rfl (lv_at hl 0 rfl) ?_
    refine va_get (D := D) (ci := 9) (v := .int 0) (C := RX9) (T := TX9) (N := 44) hx hb hts hin9 hown hK hP k0 e0 rfl 2 (by decide) (hts (.fieldLink RX9 17 "HoneyHouseModel" "today" "I") (List.mem_of_getElem? (i := 4) rfl)) (fun _ h9 => h9) f2 dX9_count_48 ?_
    exact W.iret (v := 0) hx hb hr (fun t ht hW => ⟨0, rfl, (by first | rfl | (simp_all; done) | simp [c_1, c_2, c_3, c_4]), ht⟩) (fun _ h9 => by cases h9) dX9_count_51
  have nc_1 := lv_neT c_1 (a := 0) (by decide)
  have nc_2 := lv_neT c_2 (a := 1) (by decide)
  have nc_3 := lv_neT c_3 (a := 2) (by decide)
  have nc_4 := lv_neT c_4 (a := 3) (by decide)
  refine lv_tableOut (tgt := 52) hx hb dX9_count_1 (by omega) (by decide) ?_
  refine lv_iconst (v := (-1)) hx hb dX9_count_52 (by decide) ?_
  exact W.iret (v := (-1)) hx hb hr (fun t ht hW => ⟨(-1), rfl, (by first | rfl | (simp_all; done) | simp [c_1, c_2, c_3, c_4]), ht⟩) (fun _ h9 => by cases h9) dX9_count_53
set_option maxHeartbeats 4000000 in
set_option maxRecDepth 100000 in
theorem s_X9_paid (l : Launch) (D : va_G) (ws : va_W) (tys : List (ClassId × FieldType)) (h0 : Nat) (X : MF ws tys h0) (a1 : Int32) : Met l yX9_paid wsX9_paid ({ frames := 1, cells := 0, slots := 0, locals := 22 }) (va_Pc [.ref h0, .int a1] (fun U => va_P D vwCl ws U.heap ∧ va_K D vwCl tys U)) (vp_Sl (fun r => r = if a1 < 0 ∨ 9 < a1 then (-1) else 0)) 0 0 (fun _ => False) := by
  refine Met.ofW (cc := cX9_paid) (maxL := 5) (ret := (some .long)) (by decide) rfl ?_
  intro p e s m args below meth c s₁ B hml hv
  obtain ⟨rfl, hP, hK⟩ := hv
  have hx := B.exec
  have hb := B.bytes
  have hr := B.returns
  have hts := atoms_spec (ws := wsX9_paid) B.pre
  have hown : s.vm.findClass RX9 = some m.cls := findClass_of_methodNamed B.named
  have hlocks := B.notSynchronized
  have hin9 : ∀ w ∈ u_ws RX9 TX9 44, w ∈ wsX9_paid := (fun _ h9 => List.mem_cons_of_mem _ ((List.mem_append_right _ h9)))
  have hl := lv_entry ([.ref h0, .int a1]) (n := 5) (Nat.le_of_ble_eq_true rfl)
  rw [lg_entry_eq]
  generalize (lg_sl ([.ref h0, .int a1]) ++ List.replicate (5 - (lg_sl ([.ref h0, .int a1])).length) Slot.unset).toArray = ls at hl ⊢
  have hl : lv_has ls 5 [(0, .ref h0), (1, .int a1)] := hl
  have X0 := X
  obtain ⟨k0, ah, ar, ap, kh, kr, kp, fs, ch, cr, cp, th, tr, tp, e0, f2, f3, f13, f14, f21, f22, f35, f43, f10, f11, f12, eh, uh, er, ur, ep, up⟩ := X
  refine lv_iload_n hx hb dX9_paid_0 rfl (lv_at hl 1 rfl) ?_
  refine lv_iconst (v := 0) hx hb dX9_paid_1 (by decide) ?_
  refine lv_bipush (v := 9) hx hb dX9_paid_2 (by decide) ?_
  refine vp_callSi (W.runS (As := [.int a1, .int 0, .int 9]) (rest := []) ⟨hx, hb, hml, hown, hts⟩ (s_X9_is l a1 0 9) (va_cwS 3 hts gX9_paid_X9_is rfl rfl rfl (by decide +kernel) ⟨Nat.le_of_ble_eq_true rfl, Nat.le_of_ble_eq_true rfl⟩) ⟨fun a U g mk q => q, fun U hU hW => ⟨rfl, trivial⟩⟩ rfl rfl hl.1 rfl (lv_room (Nat.le_of_ble_eq_true rfl)) dX9_paid_4 ⟨Nat.le_of_ble_eq_true rfl, Nat.le_of_ble_eq_true rfl⟩) (fun r_1 k_2 => ?_)
  rcases k_2 with ⟨rfl, a_3o⟩ | ⟨rfl, a_3, b_4⟩
  · refine lv_if_ne (tgt := 14) hx hb dX9_paid_7 (by decide) (fun c_5 => absurd (by decide) c_5) (fun c_5 => ?_)
    refine lv_ldc2 hx hb hown (hts (.constantLong RX9 173 (-1)) (List.mem_of_getElem? (i := 1) rfl)) dX9_paid_10 ?_
    exact W.lret (v := (-1)) hx hb hr (fun t ht hW => ⟨(-1), rfl, (by rcases a_3o with a_3o | a_3o <;> simp_all), ht⟩) (fun _ h9 => by cases h9) dX9_paid_13
  refine lv_if_ne (tgt := 14) hx hb dX9_paid_7 (by decide) (fun c_6 => ?_) (fun c_6 => absurd c_6 (by decide))
  refine lv_lconst (v := 0) hx hb dX9_paid_14 (by decide) ?_
  refine lv_lstore_n (lv' := [(2, .long 0), (0, .ref h0), (1, .int a1)]) hx hb dX9_paid_15 rfl hl (by decide) rfl (fun ls hl => ?_)
  refine lv_iconst (v := 0) hx hb dX9_paid_16 (by decide) ?_
  refine lv_istore (lv' := [(4, .int 0), (2, .long 0), (0, .ref h0), (1, .int a1)]) hx hb dX9_paid_17 hl (by decide) rfl (fun ls hl => ?_)
  refine lv_iload hx hb dX9_paid_19 (lv_at hl 0 rfl) ?_
  refine lv_aload_n hx hb dX9_paid_21 rfl (lv_at hl 2 rfl) ?_
  refine va_get (D := D) (ci := 9) (v := .int 0) (C := RX9) (T := TX9) (N := 44) hx hb hts hin9 hown hK hP k0 e0 rfl 3 (by decide) (hts (.fieldLink RX9 20 "HoneyHouseModel" "lots" "I") (List.mem_of_getElem? (i := 2) rfl)) (fun _ h9 => h9) f3 dX9_paid_22 ?_
  refine lv_icmp_ge (tgt := 69) hx hb dX9_paid_25 (by decide) (fun c_7 => ?_) (fun c_7 => absurd (by decide) c_7)
  refine lv_lload_n hx hb dX9_paid_69 rfl (lv_at hl 1 rfl) ?_
  exact W.lret (v := 0) hx hb hr (fun t ht hW => ⟨0, rfl, (by first | rfl | (simp_all; done) | simp [a_3, b_4, c_6, c_7]), ht⟩) (fun _ h9 => by cases h9) dX9_paid_70
set_option maxHeartbeats 4000000 in
set_option maxRecDepth 100000 in
theorem s_X9_whose (l : Launch) (D : va_G) (ws : va_W) (tys : List (ClassId × FieldType)) (h0 : Nat) (X : MF ws tys h0) (a1 a2 : Int32) : Met l yX9_whose wsX9_whose ({ frames := 1, cells := 0, slots := 0, locals := 22 }) (va_Pc [.ref h0, .int a1, .int a2] (fun U => va_P D vwCl ws U.heap ∧ va_K D vwCl tys U)) (vp_Sl (fun r => r = if (a1 < 0 ∨ 9 < a1) ∨ (a2 < 0 ∨ 3 < a2) then (-1) else 0)) 0 0 (fun _ => False) := by
  refine Met.ofW (cc := cX9_whose) (maxL := 13) (ret := (some .long)) (by decide) rfl ?_
  intro p e s m args below meth c s₁ B hml hv
  obtain ⟨rfl, hP, hK⟩ := hv
  have hx := B.exec
  have hb := B.bytes
  have hr := B.returns
  have hts := atoms_spec (ws := wsX9_whose) B.pre
  have hown : s.vm.findClass RX9 = some m.cls := findClass_of_methodNamed B.named
  have hlocks := B.notSynchronized
  have hin9 : ∀ w ∈ u_ws RX9 TX9 44, w ∈ wsX9_whose := (fun _ h9 => List.mem_cons_of_mem _ ((List.mem_append_right _ h9)))
  have hl := lv_entry ([.ref h0, .int a1, .int a2]) (n := 13) (Nat.le_of_ble_eq_true rfl)
  rw [lg_entry_eq]
  generalize (lg_sl ([.ref h0, .int a1, .int a2]) ++ List.replicate (13 - (lg_sl ([.ref h0, .int a1, .int a2])).length) Slot.unset).toArray = ls at hl ⊢
  have hl : lv_has ls 13 [(0, .ref h0), (1, .int a1), (2, .int a2)] := hl
  have X0 := X
  obtain ⟨k0, ah, ar, ap, kh, kr, kp, fs, ch, cr, cp, th, tr, tp, e0, f2, f3, f13, f14, f21, f22, f35, f43, f10, f11, f12, eh, uh, er, ur, ep, up⟩ := X
  refine lv_iload_n hx hb dX9_whose_0 rfl (lv_at hl 1 rfl) ?_
  refine lv_iconst (v := 0) hx hb dX9_whose_1 (by decide) ?_
  refine lv_bipush (v := 9) hx hb dX9_whose_2 (by decide) ?_
  refine vp_callSi (W.runS (As := [.int a1, .int 0, .int 9]) (rest := []) ⟨hx, hb, hml, hown, hts⟩ (s_X9_is l a1 0 9) (va_cwS 3 hts gX9_whose_X9_is rfl rfl rfl (by decide +kernel) ⟨Nat.le_of_ble_eq_true rfl, Nat.le_of_ble_eq_true rfl⟩) ⟨fun a U g mk q => q, fun U hU hW => ⟨rfl, trivial⟩⟩ rfl rfl hl.1 rfl (lv_room (Nat.le_of_ble_eq_true rfl)) dX9_whose_4 ⟨Nat.le_of_ble_eq_true rfl, Nat.le_of_ble_eq_true rfl⟩) (fun r_1 k_2 => ?_)
  rcases k_2 with ⟨rfl, a_3o⟩ | ⟨rfl, a_3, b_4⟩
  · refine lv_if_eq (tgt := 19) hx hb dX9_whose_7 (by decide) (fun c_5 => ?_) (fun c_5 => absurd (by decide) c_5)
    refine lv_ldc2 hx hb hown (hts (.constantLong RX9 173 (-1)) (List.mem_of_getElem? (i := 1) rfl)) dX9_whose_19 ?_
    exact W.lret (v := (-1)) hx hb hr (fun t ht hW => ⟨(-1), rfl, (by rcases a_3o with a_3o | a_3o <;> simp_all), ht⟩) (fun _ h9 => by cases h9) dX9_whose_22
  refine lv_if_eq (tgt := 19) hx hb dX9_whose_7 (by decide) (fun c_6 => absurd c_6 (by decide)) (fun c_6 => ?_)
  refine lv_iload_n hx hb dX9_whose_10 rfl (lv_at hl 2 rfl) ?_
  refine lv_iconst (v := 0) hx hb dX9_whose_11 (by decide) ?_
  refine lv_iconst (v := 3) hx hb dX9_whose_12 (by decide) ?_
  refine vp_callSi (W.runS (As := [.int a2, .int 0, .int 3]) (rest := []) ⟨hx, hb, hml, hown, hts⟩ (s_X9_is l a2 0 3) (va_cwS 3 hts gX9_whose_X9_is rfl rfl rfl (by decide +kernel) ⟨Nat.le_of_ble_eq_true rfl, Nat.le_of_ble_eq_true rfl⟩) ⟨fun a U g mk q => q, fun U hU hW => ⟨rfl, trivial⟩⟩ rfl rfl hl.1 rfl (lv_room (Nat.le_of_ble_eq_true rfl)) dX9_whose_13 ⟨Nat.le_of_ble_eq_true rfl, Nat.le_of_ble_eq_true rfl⟩) (fun r_7 k_8 => ?_)
  rcases k_8 with ⟨rfl, a_9o⟩ | ⟨rfl, a_9, b_10⟩
  · refine lv_if_ne (tgt := 23) hx hb dX9_whose_16 (by decide) (fun c_11 => absurd (by decide) c_11) (fun c_11 => ?_)
    refine lv_ldc2 hx hb hown (hts (.constantLong RX9 173 (-1)) (List.mem_of_getElem? (i := 1) rfl)) dX9_whose_19 ?_
    exact W.lret (v := (-1)) hx hb hr (fun t ht hW => ⟨(-1), rfl, (by rcases a_9o with a_9o | a_9o <;> simp_all), ht⟩) (fun _ h9 => by cases h9) dX9_whose_22
  refine lv_if_ne (tgt := 23) hx hb dX9_whose_16 (by decide) (fun c_12 => ?_) (fun c_12 => absurd c_12 (by decide))
  refine lv_lconst (v := 0) hx hb dX9_whose_23 (by decide) ?_
  refine lv_lstore_n (lv' := [(3, .long 0), (0, .ref h0), (1, .int a1), (2, .int a2)]) hx hb dX9_whose_24 rfl hl (by decide) rfl (fun ls hl => ?_)
  refine lv_lconst (v := 0) hx hb dX9_whose_25 (by decide) ?_
  refine lv_lstore (lv' := [(5, .long 0), (3, .long 0), (0, .ref h0), (1, .int a1), (2, .int a2)]) hx hb dX9_whose_26 hl (by decide) rfl (fun ls hl => ?_)
  refine lv_lconst (v := 0) hx hb dX9_whose_28 (by decide) ?_
  refine lv_lstore (lv' := [(7, .long 0), (5, .long 0), (3, .long 0), (0, .ref h0), (1, .int a1), (2, .int a2)]) hx hb dX9_whose_29 hl (by decide) rfl (fun ls hl => ?_)
  refine lv_lconst (v := 0) hx hb dX9_whose_31 (by decide) ?_
  refine lv_lstore (lv' := [(9, .long 0), (7, .long 0), (5, .long 0), (3, .long 0), (0, .ref h0), (1, .int a1), (2, .int a2)]) hx hb dX9_whose_32 hl (by decide) rfl (fun ls hl => ?_)
  refine lv_iconst (v := 0) hx hb dX9_whose_34 (by decide) ?_
  refine lv_istore (lv' := [(11, .int 0), (9, .long 0), (7, .long 0), (5, .long 0), (3, .long 0), (0, .ref h0), (1, .int a1), (2, .int a2)]) hx hb dX9_whose_35 hl (by decide) rfl (fun ls hl => ?_)
  refine lv_iload hx hb dX9_whose_37 (lv_at hl 0 rfl) ?_
  refine lv_aload_n hx hb dX9_whose_39 rfl (lv_at hl 5 rfl) ?_
  refine va_get (D := D) (ci := 9) (v := .int 0) (C := RX9) (T := TX9) (N := 44) hx hb hts hin9 hown hK hP k0 e0 rfl 3 (by decide) (hts (.fieldLink RX9 20 "HoneyHouseModel" "lots" "I") (List.mem_of_getElem? (i := 2) rfl)) (fun _ h9 => h9) f3 dX9_whose_40 ?_
  refine lv_icmp_ge (tgt := 184) hx hb dX9_whose_43 (by decide) (fun c_13 => ?_) (fun c_13 => absurd (by decide) c_13)
  refine lv_iload_n hx hb dX9_whose_184 rfl (lv_at hl 7 rfl) ?_
  refine lv_if_ne (tgt := 193) hx hb dX9_whose_185 (by decide) (fun c_14 => ?_) (fun c_14 => ?_)
  · refine lv_iload_n hx hb dX9_whose_193 rfl (lv_at hl 7 rfl) ?_
    refine lv_iconst (v := 1) hx hb dX9_whose_194 (by decide) ?_
    refine lv_icmp_ne (tgt := 203) hx hb dX9_whose_195 (by decide) (fun c_15 => ?_) (fun c_15 => ?_)
    · refine lv_iload_n hx hb dX9_whose_203 rfl (lv_at hl 7 rfl) ?_
      refine lv_iconst (v := 2) hx hb dX9_whose_204 (by decide) ?_
      refine lv_icmp_ne (tgt := 213) hx hb dX9_whose_205 (by decide) (fun c_16 => ?_) (fun c_16 => ?_)
      · refine lv_lload_n hx hb dX9_whose_213 rfl (lv_at hl 4 rfl) ?_
        refine lv_lload hx hb dX9_whose_214 (lv_at hl 3 rfl) ?_
        refine lv_lsub hx hb dX9_whose_216 ?_
        refine lv_lload hx hb dX9_whose_217 (lv_at hl 2 rfl) ?_
        refine lv_lsub hx hb dX9_whose_219 ?_
        refine lv_lload hx hb dX9_whose_220 (lv_at hl 1 rfl) ?_
        refine lv_lsub hx hb dX9_whose_222 ?_
        exact W.lret (v := ((0 - 0) - 0) - 0) hx hb hr (fun t ht hW => ⟨((0 - 0) - 0) - 0, rfl, (by first | rfl | (simp_all; done) | simp [a_3, b_4, c_6, a_9, b_10, c_12, c_13, c_14, c_15, c_16]), ht⟩) (fun _ h9 => by cases h9) dX9_whose_223
      refine lv_lload hx hb dX9_whose_208 (lv_at hl 1 rfl) ?_
      refine lv_goto (tgt := 223) hx hb dX9_whose_210 (by decide) ?_
      exact W.lret (v := 0) hx hb hr (fun t ht hW => ⟨0, rfl, (by first | rfl | (simp_all; done) | simp [a_3, b_4, c_6, a_9, b_10, c_12, c_13, c_14, c_15, c_16]), ht⟩) (fun _ h9 => by cases h9) dX9_whose_223
    refine lv_lload hx hb dX9_whose_198 (lv_at hl 2 rfl) ?_
    refine lv_goto (tgt := 223) hx hb dX9_whose_200 (by decide) ?_
    exact W.lret (v := 0) hx hb hr (fun t ht hW => ⟨0, rfl, (by first | rfl | (simp_all; done) | simp [a_3, b_4, c_6, a_9, b_10, c_12, c_13, c_14, c_15]), ht⟩) (fun _ h9 => by cases h9) dX9_whose_223
  refine lv_lload hx hb dX9_whose_188 (lv_at hl 3 rfl) ?_
  refine lv_goto (tgt := 223) hx hb dX9_whose_190 (by decide) ?_
  exact W.lret (v := 0) hx hb hr (fun t ht hW => ⟨0, rfl, (by first | rfl | (simp_all; done) | simp [a_3, b_4, c_6, a_9, b_10, c_12, c_13, c_14]), ht⟩) (fun _ h9 => by cases h9) dX9_whose_223
set_option maxHeartbeats 4000000 in
set_option maxRecDepth 100000 in
theorem s_X9_blend (l : Launch) (D : va_G) (ws : va_W) (tys : List (ClassId × FieldType)) (h0 : Nat) (X : MF ws tys h0) (a1 a2 a3 a4 a5 : Int32) : Met l yX9_blend wsX9_blend ({ frames := 1, cells := 0, slots := 0, locals := 23 }) (va_Pc [.ref h0, .int a1, .int a2, .int a3, .int a4, .int a5] (fun U => va_P D vwCl ws U.heap ∧ va_K D vwCl tys U)) (vp_Si (fun r => r = (-1))) 0 0 (fun _ => False) := by
  refine Met.ofW (cc := cX9_blend) (maxL := 20) (ret := (some .int)) (by decide) rfl ?_
  intro p e s m args below meth c s₁ B hml hv
  obtain ⟨rfl, hP, hK⟩ := hv
  have hx := B.exec
  have hb := B.bytes
  have hr := B.returns
  have hts := atoms_spec (ws := wsX9_blend) B.pre
  have hown : s.vm.findClass RX9 = some m.cls := findClass_of_methodNamed B.named
  have hlocks := B.notSynchronized
  have hl := lv_entry ([.ref h0, .int a1, .int a2, .int a3, .int a4, .int a5]) (n := 20) (Nat.le_of_ble_eq_true rfl)
  rw [lg_entry_eq]
  generalize (lg_sl ([.ref h0, .int a1, .int a2, .int a3, .int a4, .int a5]) ++ List.replicate (20 - (lg_sl ([.ref h0, .int a1, .int a2, .int a3, .int a4, .int a5])).length) Slot.unset).toArray = ls at hl ⊢
  have hl : lv_has ls 20 [(0, .ref h0), (1, .int a1), (2, .int a2), (3, .int a3), (4, .int a4), (5, .int a5)] := hl
  have X0 := X
  obtain ⟨k0, ah, ar, ap, kh, kr, kp, fs, ch, cr, cp, th, tr, tp, e0, f2, f3, f13, f14, f21, f22, f35, f43, f10, f11, f12, eh, uh, er, ur, ep, up⟩ := X
  refine lv_iload_n hx hb dX9_blend_0 rfl (lv_at hl 1 rfl) ?_
  refine lv_iconst (v := 1) hx hb dX9_blend_1 (by decide) ?_
  refine lv_icmp_lt (tgt := 58) hx hb dX9_blend_2 (by decide) (fun c_1 => ?_) (fun c_1 => ?_)
  · refine lv_iconst (v := (-1)) hx hb dX9_blend_58 (by decide) ?_
    exact W.iret (v := (-1)) hx hb hr (fun t ht hW => ⟨(-1), rfl, (by first | rfl | (simp_all; done) | simp [c_1]), ht⟩) (fun _ h9 => by cases h9) dX9_blend_59
  refine lv_iload_n hx hb dX9_blend_5 rfl (lv_at hl 1 rfl) ?_
  refine lv_sipush (v := 1023) hx hb dX9_blend_6 (by decide) ?_
  refine lv_icmp_gt (tgt := 58) hx hb dX9_blend_9 (by decide) (fun c_2 => ?_) (fun c_2 => ?_)
  · refine lv_iconst (v := (-1)) hx hb dX9_blend_58 (by decide) ?_
    exact W.iret (v := (-1)) hx hb hr (fun t ht hW => ⟨(-1), rfl, (by first | rfl | (simp_all; done) | simp [c_1, c_2]), ht⟩) (fun _ h9 => by cases h9) dX9_blend_59
  refine lv_iload_n hx hb dX9_blend_12 rfl (lv_at hl 2 rfl) ?_
  refine lv_iconst (v := 1) hx hb dX9_blend_13 (by decide) ?_
  refine lv_bipush (v := 40) hx hb dX9_blend_14 (by decide) ?_
  refine vp_callSi (W.runS (As := [.int a2, .int 1, .int 40]) (rest := []) ⟨hx, hb, hml, hown, hts⟩ (s_X9_is l a2 1 40) (va_cwS 3 hts gX9_blend_X9_is rfl rfl rfl (by decide +kernel) ⟨Nat.le_of_ble_eq_true rfl, Nat.le_of_ble_eq_true rfl⟩) ⟨fun a U g mk q => q, fun U hU hW => ⟨rfl, trivial⟩⟩ rfl rfl hl.1 rfl (lv_room (Nat.le_of_ble_eq_true rfl)) dX9_blend_16 ⟨Nat.le_of_ble_eq_true rfl, Nat.le_of_ble_eq_true rfl⟩) (fun r_3 k_4 => ?_)
  rcases k_4 with ⟨rfl, -⟩ | ⟨rfl, -, -⟩
  · refine lv_if_eq (tgt := 58) hx hb dX9_blend_19 (by decide) (fun c_5 => ?_) (fun c_5 => absurd (by decide) c_5)
    refine lv_iconst (v := (-1)) hx hb dX9_blend_58 (by decide) ?_
    exact W.iret (v := (-1)) hx hb hr (fun t ht hW => ⟨(-1), rfl, (by first | rfl | (simp_all; done) | simp [c_1, c_2, c_5]), ht⟩) (fun _ h9 => by cases h9) dX9_blend_59
  refine lv_if_eq (tgt := 58) hx hb dX9_blend_19 (by decide) (fun c_6 => absurd c_6 (by decide)) (fun c_6 => ?_)
  refine lv_iload_n hx hb dX9_blend_22 rfl (lv_at hl 3 rfl) ?_
  refine lv_iconst (v := 0) hx hb dX9_blend_23 (by decide) ?_
  refine lv_sipush (v := 300) hx hb dX9_blend_24 (by decide) ?_
  refine vp_callSi (W.runS (As := [.int a3, .int 0, .int 300]) (rest := []) ⟨hx, hb, hml, hown, hts⟩ (s_X9_is l a3 0 300) (va_cwS 3 hts gX9_blend_X9_is rfl rfl rfl (by decide +kernel) ⟨Nat.le_of_ble_eq_true rfl, Nat.le_of_ble_eq_true rfl⟩) ⟨fun a U g mk q => q, fun U hU hW => ⟨rfl, trivial⟩⟩ rfl rfl hl.1 rfl (lv_room (Nat.le_of_ble_eq_true rfl)) dX9_blend_27 ⟨Nat.le_of_ble_eq_true rfl, Nat.le_of_ble_eq_true rfl⟩) (fun r_7 k_8 => ?_)
  rcases k_8 with ⟨rfl, -⟩ | ⟨rfl, -, -⟩
  · refine lv_if_eq (tgt := 58) hx hb dX9_blend_30 (by decide) (fun c_9 => ?_) (fun c_9 => absurd (by decide) c_9)
    refine lv_iconst (v := (-1)) hx hb dX9_blend_58 (by decide) ?_
    exact W.iret (v := (-1)) hx hb hr (fun t ht hW => ⟨(-1), rfl, (by first | rfl | (simp_all; done) | simp [c_1, c_2, c_6, c_9]), ht⟩) (fun _ h9 => by cases h9) dX9_blend_59
  refine lv_if_eq (tgt := 58) hx hb dX9_blend_30 (by decide) (fun c_10 => absurd c_10 (by decide)) (fun c_10 => ?_)
  refine lv_iload hx hb dX9_blend_33 (lv_at hl 4 rfl) ?_
  refine lv_iconst (v := 0) hx hb dX9_blend_35 (by decide) ?_
  refine lv_sipush (v := 140) hx hb dX9_blend_36 (by decide) ?_
  refine vp_callSi (W.runS (As := [.int a4, .int 0, .int 140]) (rest := []) ⟨hx, hb, hml, hown, hts⟩ (s_X9_is l a4 0 140) (va_cwS 3 hts gX9_blend_X9_is rfl rfl rfl (by decide +kernel) ⟨Nat.le_of_ble_eq_true rfl, Nat.le_of_ble_eq_true rfl⟩) ⟨fun a U g mk q => q, fun U hU hW => ⟨rfl, trivial⟩⟩ rfl rfl hl.1 rfl (lv_room (Nat.le_of_ble_eq_true rfl)) dX9_blend_39 ⟨Nat.le_of_ble_eq_true rfl, Nat.le_of_ble_eq_true rfl⟩) (fun r_11 k_12 => ?_)
  rcases k_12 with ⟨rfl, -⟩ | ⟨rfl, -, -⟩
  · refine lv_if_eq (tgt := 58) hx hb dX9_blend_42 (by decide) (fun c_13 => ?_) (fun c_13 => absurd (by decide) c_13)
    refine lv_iconst (v := (-1)) hx hb dX9_blend_58 (by decide) ?_
    exact W.iret (v := (-1)) hx hb hr (fun t ht hW => ⟨(-1), rfl, (by first | rfl | (simp_all; done) | simp [c_1, c_2, c_6, c_10, c_13]), ht⟩) (fun _ h9 => by cases h9) dX9_blend_59
  refine lv_if_eq (tgt := 58) hx hb dX9_blend_42 (by decide) (fun c_14 => absurd c_14 (by decide)) (fun c_14 => ?_)
  refine lv_iload hx hb dX9_blend_45 (lv_at hl 5 rfl) ?_
  refine lv_iload hx hb dX9_blend_47 (lv_at hl 4 rfl) ?_
  refine lv_sipush (v := 140) hx hb dX9_blend_49 (by decide) ?_
  refine vp_callSi (W.runS (As := [.int a5, .int a4, .int 140]) (rest := []) ⟨hx, hb, hml, hown, hts⟩ (s_X9_is l a5 a4 140) (va_cwS 3 hts gX9_blend_X9_is rfl rfl rfl (by decide +kernel) ⟨Nat.le_of_ble_eq_true rfl, Nat.le_of_ble_eq_true rfl⟩) ⟨fun a U g mk q => q, fun U hU hW => ⟨rfl, trivial⟩⟩ rfl rfl hl.1 rfl (lv_room (Nat.le_of_ble_eq_true rfl)) dX9_blend_52 ⟨Nat.le_of_ble_eq_true rfl, Nat.le_of_ble_eq_true rfl⟩) (fun r_15 k_16 => ?_)
  rcases k_16 with ⟨rfl, -⟩ | ⟨rfl, -, -⟩
  · refine lv_if_ne (tgt := 60) hx hb dX9_blend_55 (by decide) (fun c_17 => absurd (by decide) c_17) (fun c_17 => ?_)
    refine lv_iconst (v := (-1)) hx hb dX9_blend_58 (by decide) ?_
    exact W.iret (v := (-1)) hx hb hr (fun t ht hW => ⟨(-1), rfl, (by first | rfl | (simp_all; done) | simp [c_1, c_2, c_6, c_10, c_14, c_17]), ht⟩) (fun _ h9 => by cases h9) dX9_blend_59
  refine lv_if_ne (tgt := 60) hx hb dX9_blend_55 (by decide) (fun c_18 => ?_) (fun c_18 => absurd c_18 (by decide))
  refine lv_iconst (v := 0) hx hb dX9_blend_60 (by decide) ?_
  refine lv_istore (lv' := [(6, .int 0), (0, .ref h0), (1, .int a1), (2, .int a2), (3, .int a3), (4, .int a4), (5, .int a5)]) hx hb dX9_blend_61 hl (by decide) rfl (fun ls hl => ?_)
  refine lv_iconst (v := 0) hx hb dX9_blend_63 (by decide) ?_
  refine lv_istore (lv' := [(7, .int 0), (6, .int 0), (0, .ref h0), (1, .int a1), (2, .int a2), (3, .int a3), (4, .int a4), (5, .int a5)]) hx hb dX9_blend_64 hl (by decide) rfl (fun ls hl => ?_)
  refine lv_iload hx hb dX9_blend_66 (lv_at hl 0 rfl) ?_
  refine lv_bipush (v := 10) hx hb dX9_blend_68 (by decide) ?_
  refine lv_icmp_ge (tgt := 120) hx hb dX9_blend_70 (by decide) (fun c_19 => absurd c_19 (by decide)) (fun c_19 => ?_)
  refine lv_iload_n hx hb dX9_blend_73 rfl (lv_at hl 3 rfl) ?_
  refine lv_iload hx hb dX9_blend_74 (lv_at hl 0 rfl) ?_
  refine lv_ishr hx hb dX9_blend_76 ?_
  refine lv_iconst (v := 1) hx hb dX9_blend_77 (by decide) ?_
  refine lv_iand hx hb dX9_blend_78 ?_
  refine lv_if_ne (tgt := 85) hx hb dX9_blend_79 (by decide) (fun c_20 => ?_) (fun c_20 => ?_)
  · refine lv_iload hx hb dX9_blend_85 (lv_at hl 1 rfl) ?_
    refine lv_iconst (v := 4) hx hb dX9_blend_87 (by decide) ?_
    refine lv_icmp_eq (tgt := 100) hx hb dX9_blend_88 (by decide) (fun c_21 => absurd c_21 (by decide)) (fun c_21 => ?_)
    refine lv_aload_n hx hb dX9_blend_91 rfl (lv_at hl 2 rfl) ?_
    refine lv_iload hx hb dX9_blend_92 (lv_at hl 0 rfl) ?_
    refine vp_callSi (W.runV (As := [.int 0]) (rest := []) ⟨hx, hb, hml, hown, hts⟩ (s_X9_all l D ws tys h0 k0 _ 0 e0 f3) (cwV 1 hts gX9_blend_X9_all rfl rfl rfl (by decide +kernel) ⟨Nat.le_of_ble_eq_true rfl, Nat.le_of_ble_eq_true rfl⟩) ⟨fun a U g mk q => ⟨q.1, q.2.1, va_K.moved (u := U) (U := U.calling g mk a) (Vm.Alike.refl U.vm) q.2.2⟩, va_recv hK hP (ci := 9) (q0 := k0) rfl e0, fun U hU hW => ⟨rfl, by rw [hU]; exact hP, va_K.moved hW.alike hK⟩⟩ rfl rfl hl.1 rfl (lv_room (Nat.le_of_ble_eq_true rfl)) dX9_blend_94 ⟨Nat.le_of_ble_eq_true rfl, Nat.le_of_ble_eq_true rfl⟩) (fun r_22 k_23 => ?_)
    subst k_23
    refine lv_if_ne (tgt := 102) hx hb dX9_blend_97 (by decide) (fun c_24 => absurd (by decide) c_24) (fun c_24 => ?_)
    refine lv_iconst (v := (-1)) hx hb dX9_blend_100 (by decide) ?_
    exact W.iret (v := (-1)) hx hb hr (fun t ht hW => ⟨(-1), rfl, (by first | rfl | (simp_all; done) | simp [c_1, c_2, c_6, c_10, c_14, c_18, c_19, c_20, c_21, c_24]), ht⟩) (fun _ h9 => by cases h9) dX9_blend_101
  refine lv_goto (tgt := 114) hx hb dX9_blend_82 (by decide) ?_
  refine lv_iinc (v := 1) (lv' := [(7, .int 1), (6, .int 0), (0, .ref h0), (1, .int a1), (2, .int a2), (3, .int a3), (4, .int a4), (5, .int a5)]) hx hb dX9_blend_114 hl (k := 0) rfl (by decide) (by decide) rfl (fun ls hl => ?_)
  refine lv_goto (tgt := 66) hx hb dX9_blend_117 (by decide) ?_
  refine lv_iload hx hb dX9_blend_66 (lv_at hl 0 rfl) ?_
  refine lv_bipush (v := 10) hx hb dX9_blend_68 (by decide) ?_
  refine lv_icmp_ge (tgt := 120) hx hb dX9_blend_70 (by decide) (fun c_25 => absurd c_25 (by decide)) (fun c_25 => ?_)
  refine lv_iload_n hx hb dX9_blend_73 rfl (lv_at hl 3 rfl) ?_
  refine lv_iload hx hb dX9_blend_74 (lv_at hl 0 rfl) ?_
  refine lv_ishr hx hb dX9_blend_76 ?_
  refine lv_iconst (v := 1) hx hb dX9_blend_77 (by decide) ?_
  refine lv_iand hx hb dX9_blend_78 ?_
  refine lv_if_ne (tgt := 85) hx hb dX9_blend_79 (by decide) (fun c_26 => ?_) (fun c_26 => ?_)
  · refine lv_iload hx hb dX9_blend_85 (lv_at hl 1 rfl) ?_
    refine lv_iconst (v := 4) hx hb dX9_blend_87 (by decide) ?_
    refine lv_icmp_eq (tgt := 100) hx hb dX9_blend_88 (by decide) (fun c_27 => absurd c_27 (by decide)) (fun c_27 => ?_)
    refine lv_aload_n hx hb dX9_blend_91 rfl (lv_at hl 2 rfl) ?_
    refine lv_iload hx hb dX9_blend_92 (lv_at hl 0 rfl) ?_
    refine vp_callSi (W.runV (As := [.int 1]) (rest := []) ⟨hx, hb, hml, hown, hts⟩ (s_X9_all l D ws tys h0 k0 _ 1 e0 f3) (cwV 1 hts gX9_blend_X9_all rfl rfl rfl (by decide +kernel) ⟨Nat.le_of_ble_eq_true rfl, Nat.le_of_ble_eq_true rfl⟩) ⟨fun a U g mk q => ⟨q.1, q.2.1, va_K.moved (u := U) (U := U.calling g mk a) (Vm.Alike.refl U.vm) q.2.2⟩, va_recv hK hP (ci := 9) (q0 := k0) rfl e0, fun U hU hW => ⟨rfl, by rw [hU]; exact hP, va_K.moved hW.alike hK⟩⟩ rfl rfl hl.1 rfl (lv_room (Nat.le_of_ble_eq_true rfl)) dX9_blend_94 ⟨Nat.le_of_ble_eq_true rfl, Nat.le_of_ble_eq_true rfl⟩) (fun r_28 k_29 => ?_)
    subst k_29
    refine lv_if_ne (tgt := 102) hx hb dX9_blend_97 (by decide) (fun c_30 => absurd (by decide) c_30) (fun c_30 => ?_)
    refine lv_iconst (v := (-1)) hx hb dX9_blend_100 (by decide) ?_
    exact W.iret (v := (-1)) hx hb hr (fun t ht hW => ⟨(-1), rfl, (by first | rfl | (simp_all; done) | simp [c_1, c_2, c_6, c_10, c_14, c_18, c_19, c_20, c_25, c_26, c_27, c_30]), ht⟩) (fun _ h9 => by cases h9) dX9_blend_101
  refine lv_goto (tgt := 114) hx hb dX9_blend_82 (by decide) ?_
  refine lv_iinc (v := 2) (lv' := [(7, .int 2), (6, .int 0), (0, .ref h0), (1, .int a1), (2, .int a2), (3, .int a3), (4, .int a4), (5, .int a5)]) hx hb dX9_blend_114 hl (k := 0) rfl (by decide) (by decide) rfl (fun ls hl => ?_)
  refine lv_goto (tgt := 66) hx hb dX9_blend_117 (by decide) ?_
  refine lv_iload hx hb dX9_blend_66 (lv_at hl 0 rfl) ?_
  refine lv_bipush (v := 10) hx hb dX9_blend_68 (by decide) ?_
  refine lv_icmp_ge (tgt := 120) hx hb dX9_blend_70 (by decide) (fun c_31 => absurd c_31 (by decide)) (fun c_31 => ?_)
  refine lv_iload_n hx hb dX9_blend_73 rfl (lv_at hl 3 rfl) ?_
  refine lv_iload hx hb dX9_blend_74 (lv_at hl 0 rfl) ?_
  refine lv_ishr hx hb dX9_blend_76 ?_
  refine lv_iconst (v := 1) hx hb dX9_blend_77 (by decide) ?_
  refine lv_iand hx hb dX9_blend_78 ?_
  refine lv_if_ne (tgt := 85) hx hb dX9_blend_79 (by decide) (fun c_32 => ?_) (fun c_32 => ?_)
  · refine lv_iload hx hb dX9_blend_85 (lv_at hl 1 rfl) ?_
    refine lv_iconst (v := 4) hx hb dX9_blend_87 (by decide) ?_
    refine lv_icmp_eq (tgt := 100) hx hb dX9_blend_88 (by decide) (fun c_33 => absurd c_33 (by decide)) (fun c_33 => ?_)
    refine lv_aload_n hx hb dX9_blend_91 rfl (lv_at hl 2 rfl) ?_
    refine lv_iload hx hb dX9_blend_92 (lv_at hl 0 rfl) ?_
    refine vp_callSi (W.runV (As := [.int 2]) (rest := []) ⟨hx, hb, hml, hown, hts⟩ (s_X9_all l D ws tys h0 k0 _ 2 e0 f3) (cwV 1 hts gX9_blend_X9_all rfl rfl rfl (by decide +kernel) ⟨Nat.le_of_ble_eq_true rfl, Nat.le_of_ble_eq_true rfl⟩) ⟨fun a U g mk q => ⟨q.1, q.2.1, va_K.moved (u := U) (U := U.calling g mk a) (Vm.Alike.refl U.vm) q.2.2⟩, va_recv hK hP (ci := 9) (q0 := k0) rfl e0, fun U hU hW => ⟨rfl, by rw [hU]; exact hP, va_K.moved hW.alike hK⟩⟩ rfl rfl hl.1 rfl (lv_room (Nat.le_of_ble_eq_true rfl)) dX9_blend_94 ⟨Nat.le_of_ble_eq_true rfl, Nat.le_of_ble_eq_true rfl⟩) (fun r_34 k_35 => ?_)
    subst k_35
    refine lv_if_ne (tgt := 102) hx hb dX9_blend_97 (by decide) (fun c_36 => absurd (by decide) c_36) (fun c_36 => ?_)
    refine lv_iconst (v := (-1)) hx hb dX9_blend_100 (by decide) ?_
    exact W.iret (v := (-1)) hx hb hr (fun t ht hW => ⟨(-1), rfl, (by first | rfl | (simp_all; done) | simp [c_1, c_2, c_6, c_10, c_14, c_18, c_19, c_20, c_25, c_26, c_31, c_32, c_33, c_36]), ht⟩) (fun _ h9 => by cases h9) dX9_blend_101
  refine lv_goto (tgt := 114) hx hb dX9_blend_82 (by decide) ?_
  refine lv_iinc (v := 3) (lv' := [(7, .int 3), (6, .int 0), (0, .ref h0), (1, .int a1), (2, .int a2), (3, .int a3), (4, .int a4), (5, .int a5)]) hx hb dX9_blend_114 hl (k := 0) rfl (by decide) (by decide) rfl (fun ls hl => ?_)
  refine lv_goto (tgt := 66) hx hb dX9_blend_117 (by decide) ?_
  refine lv_iload hx hb dX9_blend_66 (lv_at hl 0 rfl) ?_
  refine lv_bipush (v := 10) hx hb dX9_blend_68 (by decide) ?_
  refine lv_icmp_ge (tgt := 120) hx hb dX9_blend_70 (by decide) (fun c_37 => absurd c_37 (by decide)) (fun c_37 => ?_)
  refine lv_iload_n hx hb dX9_blend_73 rfl (lv_at hl 3 rfl) ?_
  refine lv_iload hx hb dX9_blend_74 (lv_at hl 0 rfl) ?_
  refine lv_ishr hx hb dX9_blend_76 ?_
  refine lv_iconst (v := 1) hx hb dX9_blend_77 (by decide) ?_
  refine lv_iand hx hb dX9_blend_78 ?_
  refine lv_if_ne (tgt := 85) hx hb dX9_blend_79 (by decide) (fun c_38 => ?_) (fun c_38 => ?_)
  · refine lv_iload hx hb dX9_blend_85 (lv_at hl 1 rfl) ?_
    refine lv_iconst (v := 4) hx hb dX9_blend_87 (by decide) ?_
    refine lv_icmp_eq (tgt := 100) hx hb dX9_blend_88 (by decide) (fun c_39 => absurd c_39 (by decide)) (fun c_39 => ?_)
    refine lv_aload_n hx hb dX9_blend_91 rfl (lv_at hl 2 rfl) ?_
    refine lv_iload hx hb dX9_blend_92 (lv_at hl 0 rfl) ?_
    refine vp_callSi (W.runV (As := [.int 3]) (rest := []) ⟨hx, hb, hml, hown, hts⟩ (s_X9_all l D ws tys h0 k0 _ 3 e0 f3) (cwV 1 hts gX9_blend_X9_all rfl rfl rfl (by decide +kernel) ⟨Nat.le_of_ble_eq_true rfl, Nat.le_of_ble_eq_true rfl⟩) ⟨fun a U g mk q => ⟨q.1, q.2.1, va_K.moved (u := U) (U := U.calling g mk a) (Vm.Alike.refl U.vm) q.2.2⟩, va_recv hK hP (ci := 9) (q0 := k0) rfl e0, fun U hU hW => ⟨rfl, by rw [hU]; exact hP, va_K.moved hW.alike hK⟩⟩ rfl rfl hl.1 rfl (lv_room (Nat.le_of_ble_eq_true rfl)) dX9_blend_94 ⟨Nat.le_of_ble_eq_true rfl, Nat.le_of_ble_eq_true rfl⟩) (fun r_40 k_41 => ?_)
    subst k_41
    refine lv_if_ne (tgt := 102) hx hb dX9_blend_97 (by decide) (fun c_42 => absurd (by decide) c_42) (fun c_42 => ?_)
    refine lv_iconst (v := (-1)) hx hb dX9_blend_100 (by decide) ?_
    exact W.iret (v := (-1)) hx hb hr (fun t ht hW => ⟨(-1), rfl, (by first | rfl | (simp_all; done) | simp [c_1, c_2, c_6, c_10, c_14, c_18, c_19, c_20, c_25, c_26, c_31, c_32, c_37, c_38, c_39, c_42]), ht⟩) (fun _ h9 => by cases h9) dX9_blend_101
  refine lv_goto (tgt := 114) hx hb dX9_blend_82 (by decide) ?_
  refine lv_iinc (v := 4) (lv' := [(7, .int 4), (6, .int 0), (0, .ref h0), (1, .int a1), (2, .int a2), (3, .int a3), (4, .int a4), (5, .int a5)]) hx hb dX9_blend_114 hl (k := 0) rfl (by decide) (by decide) rfl (fun ls hl => ?_)
  refine lv_goto (tgt := 66) hx hb dX9_blend_117 (by decide) ?_
  refine lv_iload hx hb dX9_blend_66 (lv_at hl 0 rfl) ?_
  refine lv_bipush (v := 10) hx hb dX9_blend_68 (by decide) ?_
  refine lv_icmp_ge (tgt := 120) hx hb dX9_blend_70 (by decide) (fun c_43 => absurd c_43 (by decide)) (fun c_43 => ?_)
  refine lv_iload_n hx hb dX9_blend_73 rfl (lv_at hl 3 rfl) ?_
  refine lv_iload hx hb dX9_blend_74 (lv_at hl 0 rfl) ?_
  refine lv_ishr hx hb dX9_blend_76 ?_
  refine lv_iconst (v := 1) hx hb dX9_blend_77 (by decide) ?_
  refine lv_iand hx hb dX9_blend_78 ?_
  refine lv_if_ne (tgt := 85) hx hb dX9_blend_79 (by decide) (fun c_44 => ?_) (fun c_44 => ?_)
  · refine lv_iload hx hb dX9_blend_85 (lv_at hl 1 rfl) ?_
    refine lv_iconst (v := 4) hx hb dX9_blend_87 (by decide) ?_
    refine lv_icmp_eq (tgt := 100) hx hb dX9_blend_88 (by decide) (fun c_45 => absurd c_45 (by decide)) (fun c_45 => ?_)
    refine lv_aload_n hx hb dX9_blend_91 rfl (lv_at hl 2 rfl) ?_
    refine lv_iload hx hb dX9_blend_92 (lv_at hl 0 rfl) ?_
    refine vp_callSi (W.runV (As := [.int 4]) (rest := []) ⟨hx, hb, hml, hown, hts⟩ (s_X9_all l D ws tys h0 k0 _ 4 e0 f3) (cwV 1 hts gX9_blend_X9_all rfl rfl rfl (by decide +kernel) ⟨Nat.le_of_ble_eq_true rfl, Nat.le_of_ble_eq_true rfl⟩) ⟨fun a U g mk q => ⟨q.1, q.2.1, va_K.moved (u := U) (U := U.calling g mk a) (Vm.Alike.refl U.vm) q.2.2⟩, va_recv hK hP (ci := 9) (q0 := k0) rfl e0, fun U hU hW => ⟨rfl, by rw [hU]; exact hP, va_K.moved hW.alike hK⟩⟩ rfl rfl hl.1 rfl (lv_room (Nat.le_of_ble_eq_true rfl)) dX9_blend_94 ⟨Nat.le_of_ble_eq_true rfl, Nat.le_of_ble_eq_true rfl⟩) (fun r_46 k_47 => ?_)
    subst k_47
    refine lv_if_ne (tgt := 102) hx hb dX9_blend_97 (by decide) (fun c_48 => absurd (by decide) c_48) (fun c_48 => ?_)
    refine lv_iconst (v := (-1)) hx hb dX9_blend_100 (by decide) ?_
    exact W.iret (v := (-1)) hx hb hr (fun t ht hW => ⟨(-1), rfl, (by first | rfl | (simp_all; done) | simp [c_1, c_2, c_6, c_10, c_14, c_18, c_19, c_20, c_25, c_26, c_31, c_32, c_37, c_38, c_43, c_44, c_45, c_48]), ht⟩) (fun _ h9 => by cases h9) dX9_blend_101
  refine lv_goto (tgt := 114) hx hb dX9_blend_82 (by decide) ?_
  refine lv_iinc (v := 5) (lv' := [(7, .int 5), (6, .int 0), (0, .ref h0), (1, .int a1), (2, .int a2), (3, .int a3), (4, .int a4), (5, .int a5)]) hx hb dX9_blend_114 hl (k := 0) rfl (by decide) (by decide) rfl (fun ls hl => ?_)
  refine lv_goto (tgt := 66) hx hb dX9_blend_117 (by decide) ?_
  refine lv_iload hx hb dX9_blend_66 (lv_at hl 0 rfl) ?_
  refine lv_bipush (v := 10) hx hb dX9_blend_68 (by decide) ?_
  refine lv_icmp_ge (tgt := 120) hx hb dX9_blend_70 (by decide) (fun c_49 => absurd c_49 (by decide)) (fun c_49 => ?_)
  refine lv_iload_n hx hb dX9_blend_73 rfl (lv_at hl 3 rfl) ?_
  refine lv_iload hx hb dX9_blend_74 (lv_at hl 0 rfl) ?_
  refine lv_ishr hx hb dX9_blend_76 ?_
  refine lv_iconst (v := 1) hx hb dX9_blend_77 (by decide) ?_
  refine lv_iand hx hb dX9_blend_78 ?_
  refine lv_if_ne (tgt := 85) hx hb dX9_blend_79 (by decide) (fun c_50 => ?_) (fun c_50 => ?_)
  · refine lv_iload hx hb dX9_blend_85 (lv_at hl 1 rfl) ?_
    refine lv_iconst (v := 4) hx hb dX9_blend_87 (by decide) ?_
    refine lv_icmp_eq (tgt := 100) hx hb dX9_blend_88 (by decide) (fun c_51 => absurd c_51 (by decide)) (fun c_51 => ?_)
    refine lv_aload_n hx hb dX9_blend_91 rfl (lv_at hl 2 rfl) ?_
    refine lv_iload hx hb dX9_blend_92 (lv_at hl 0 rfl) ?_
    refine vp_callSi (W.runV (As := [.int 5]) (rest := []) ⟨hx, hb, hml, hown, hts⟩ (s_X9_all l D ws tys h0 k0 _ 5 e0 f3) (cwV 1 hts gX9_blend_X9_all rfl rfl rfl (by decide +kernel) ⟨Nat.le_of_ble_eq_true rfl, Nat.le_of_ble_eq_true rfl⟩) ⟨fun a U g mk q => ⟨q.1, q.2.1, va_K.moved (u := U) (U := U.calling g mk a) (Vm.Alike.refl U.vm) q.2.2⟩, va_recv hK hP (ci := 9) (q0 := k0) rfl e0, fun U hU hW => ⟨rfl, by rw [hU]; exact hP, va_K.moved hW.alike hK⟩⟩ rfl rfl hl.1 rfl (lv_room (Nat.le_of_ble_eq_true rfl)) dX9_blend_94 ⟨Nat.le_of_ble_eq_true rfl, Nat.le_of_ble_eq_true rfl⟩) (fun r_52 k_53 => ?_)
    subst k_53
    refine lv_if_ne (tgt := 102) hx hb dX9_blend_97 (by decide) (fun c_54 => absurd (by decide) c_54) (fun c_54 => ?_)
    refine lv_iconst (v := (-1)) hx hb dX9_blend_100 (by decide) ?_
    exact W.iret (v := (-1)) hx hb hr (fun t ht hW => ⟨(-1), rfl, (by first | rfl | (simp_all; done) | simp [c_1, c_2, c_6, c_10, c_14, c_18, c_19, c_20, c_25, c_26, c_31, c_32, c_37, c_38, c_43, c_44, c_49, c_50, c_51, c_54]), ht⟩) (fun _ h9 => by cases h9) dX9_blend_101
  refine lv_goto (tgt := 114) hx hb dX9_blend_82 (by decide) ?_
  refine lv_iinc (v := 6) (lv' := [(7, .int 6), (6, .int 0), (0, .ref h0), (1, .int a1), (2, .int a2), (3, .int a3), (4, .int a4), (5, .int a5)]) hx hb dX9_blend_114 hl (k := 0) rfl (by decide) (by decide) rfl (fun ls hl => ?_)
  refine lv_goto (tgt := 66) hx hb dX9_blend_117 (by decide) ?_
  refine lv_iload hx hb dX9_blend_66 (lv_at hl 0 rfl) ?_
  refine lv_bipush (v := 10) hx hb dX9_blend_68 (by decide) ?_
  refine lv_icmp_ge (tgt := 120) hx hb dX9_blend_70 (by decide) (fun c_55 => absurd c_55 (by decide)) (fun c_55 => ?_)
  refine lv_iload_n hx hb dX9_blend_73 rfl (lv_at hl 3 rfl) ?_
  refine lv_iload hx hb dX9_blend_74 (lv_at hl 0 rfl) ?_
  refine lv_ishr hx hb dX9_blend_76 ?_
  refine lv_iconst (v := 1) hx hb dX9_blend_77 (by decide) ?_
  refine lv_iand hx hb dX9_blend_78 ?_
  refine lv_if_ne (tgt := 85) hx hb dX9_blend_79 (by decide) (fun c_56 => ?_) (fun c_56 => ?_)
  · refine lv_iload hx hb dX9_blend_85 (lv_at hl 1 rfl) ?_
    refine lv_iconst (v := 4) hx hb dX9_blend_87 (by decide) ?_
    refine lv_icmp_eq (tgt := 100) hx hb dX9_blend_88 (by decide) (fun c_57 => absurd c_57 (by decide)) (fun c_57 => ?_)
    refine lv_aload_n hx hb dX9_blend_91 rfl (lv_at hl 2 rfl) ?_
    refine lv_iload hx hb dX9_blend_92 (lv_at hl 0 rfl) ?_
    refine vp_callSi (W.runV (As := [.int 6]) (rest := []) ⟨hx, hb, hml, hown, hts⟩ (s_X9_all l D ws tys h0 k0 _ 6 e0 f3) (cwV 1 hts gX9_blend_X9_all rfl rfl rfl (by decide +kernel) ⟨Nat.le_of_ble_eq_true rfl, Nat.le_of_ble_eq_true rfl⟩) ⟨fun a U g mk q => ⟨q.1, q.2.1, va_K.moved (u := U) (U := U.calling g mk a) (Vm.Alike.refl U.vm) q.2.2⟩, va_recv hK hP (ci := 9) (q0 := k0) rfl e0, fun U hU hW => ⟨rfl, by rw [hU]; exact hP, va_K.moved hW.alike hK⟩⟩ rfl rfl hl.1 rfl (lv_room (Nat.le_of_ble_eq_true rfl)) dX9_blend_94 ⟨Nat.le_of_ble_eq_true rfl, Nat.le_of_ble_eq_true rfl⟩) (fun r_58 k_59 => ?_)
    subst k_59
    refine lv_if_ne (tgt := 102) hx hb dX9_blend_97 (by decide) (fun c_60 => absurd (by decide) c_60) (fun c_60 => ?_)
    refine lv_iconst (v := (-1)) hx hb dX9_blend_100 (by decide) ?_
    exact W.iret (v := (-1)) hx hb hr (fun t ht hW => ⟨(-1), rfl, (by first | rfl | (simp_all; done) | simp [c_1, c_2, c_6, c_10, c_14, c_18, c_19, c_20, c_25, c_26, c_31, c_32, c_37, c_38, c_43, c_44, c_49, c_50, c_55, c_56, c_57, c_60]), ht⟩) (fun _ h9 => by cases h9) dX9_blend_101
  refine lv_goto (tgt := 114) hx hb dX9_blend_82 (by decide) ?_
  refine lv_iinc (v := 7) (lv' := [(7, .int 7), (6, .int 0), (0, .ref h0), (1, .int a1), (2, .int a2), (3, .int a3), (4, .int a4), (5, .int a5)]) hx hb dX9_blend_114 hl (k := 0) rfl (by decide) (by decide) rfl (fun ls hl => ?_)
  refine lv_goto (tgt := 66) hx hb dX9_blend_117 (by decide) ?_
  refine lv_iload hx hb dX9_blend_66 (lv_at hl 0 rfl) ?_
  refine lv_bipush (v := 10) hx hb dX9_blend_68 (by decide) ?_
  refine lv_icmp_ge (tgt := 120) hx hb dX9_blend_70 (by decide) (fun c_61 => absurd c_61 (by decide)) (fun c_61 => ?_)
  refine lv_iload_n hx hb dX9_blend_73 rfl (lv_at hl 3 rfl) ?_
  refine lv_iload hx hb dX9_blend_74 (lv_at hl 0 rfl) ?_
  refine lv_ishr hx hb dX9_blend_76 ?_
  refine lv_iconst (v := 1) hx hb dX9_blend_77 (by decide) ?_
  refine lv_iand hx hb dX9_blend_78 ?_
  refine lv_if_ne (tgt := 85) hx hb dX9_blend_79 (by decide) (fun c_62 => ?_) (fun c_62 => ?_)
  · refine lv_iload hx hb dX9_blend_85 (lv_at hl 1 rfl) ?_
    refine lv_iconst (v := 4) hx hb dX9_blend_87 (by decide) ?_
    refine lv_icmp_eq (tgt := 100) hx hb dX9_blend_88 (by decide) (fun c_63 => absurd c_63 (by decide)) (fun c_63 => ?_)
    refine lv_aload_n hx hb dX9_blend_91 rfl (lv_at hl 2 rfl) ?_
    refine lv_iload hx hb dX9_blend_92 (lv_at hl 0 rfl) ?_
    refine vp_callSi (W.runV (As := [.int 7]) (rest := []) ⟨hx, hb, hml, hown, hts⟩ (s_X9_all l D ws tys h0 k0 _ 7 e0 f3) (cwV 1 hts gX9_blend_X9_all rfl rfl rfl (by decide +kernel) ⟨Nat.le_of_ble_eq_true rfl, Nat.le_of_ble_eq_true rfl⟩) ⟨fun a U g mk q => ⟨q.1, q.2.1, va_K.moved (u := U) (U := U.calling g mk a) (Vm.Alike.refl U.vm) q.2.2⟩, va_recv hK hP (ci := 9) (q0 := k0) rfl e0, fun U hU hW => ⟨rfl, by rw [hU]; exact hP, va_K.moved hW.alike hK⟩⟩ rfl rfl hl.1 rfl (lv_room (Nat.le_of_ble_eq_true rfl)) dX9_blend_94 ⟨Nat.le_of_ble_eq_true rfl, Nat.le_of_ble_eq_true rfl⟩) (fun r_64 k_65 => ?_)
    subst k_65
    refine lv_if_ne (tgt := 102) hx hb dX9_blend_97 (by decide) (fun c_66 => absurd (by decide) c_66) (fun c_66 => ?_)
    refine lv_iconst (v := (-1)) hx hb dX9_blend_100 (by decide) ?_
    exact W.iret (v := (-1)) hx hb hr (fun t ht hW => ⟨(-1), rfl, (by first | rfl | (simp_all; done) | simp [c_1, c_2, c_6, c_10, c_14, c_18, c_19, c_20, c_25, c_26, c_31, c_32, c_37, c_38, c_43, c_44, c_49, c_50, c_55, c_56, c_61, c_62, c_63, c_66]), ht⟩) (fun _ h9 => by cases h9) dX9_blend_101
  refine lv_goto (tgt := 114) hx hb dX9_blend_82 (by decide) ?_
  refine lv_iinc (v := 8) (lv' := [(7, .int 8), (6, .int 0), (0, .ref h0), (1, .int a1), (2, .int a2), (3, .int a3), (4, .int a4), (5, .int a5)]) hx hb dX9_blend_114 hl (k := 0) rfl (by decide) (by decide) rfl (fun ls hl => ?_)
  refine lv_goto (tgt := 66) hx hb dX9_blend_117 (by decide) ?_
  refine lv_iload hx hb dX9_blend_66 (lv_at hl 0 rfl) ?_
  refine lv_bipush (v := 10) hx hb dX9_blend_68 (by decide) ?_
  refine lv_icmp_ge (tgt := 120) hx hb dX9_blend_70 (by decide) (fun c_67 => absurd c_67 (by decide)) (fun c_67 => ?_)
  refine lv_iload_n hx hb dX9_blend_73 rfl (lv_at hl 3 rfl) ?_
  refine lv_iload hx hb dX9_blend_74 (lv_at hl 0 rfl) ?_
  refine lv_ishr hx hb dX9_blend_76 ?_
  refine lv_iconst (v := 1) hx hb dX9_blend_77 (by decide) ?_
  refine lv_iand hx hb dX9_blend_78 ?_
  refine lv_if_ne (tgt := 85) hx hb dX9_blend_79 (by decide) (fun c_68 => ?_) (fun c_68 => ?_)
  · refine lv_iload hx hb dX9_blend_85 (lv_at hl 1 rfl) ?_
    refine lv_iconst (v := 4) hx hb dX9_blend_87 (by decide) ?_
    refine lv_icmp_eq (tgt := 100) hx hb dX9_blend_88 (by decide) (fun c_69 => absurd c_69 (by decide)) (fun c_69 => ?_)
    refine lv_aload_n hx hb dX9_blend_91 rfl (lv_at hl 2 rfl) ?_
    refine lv_iload hx hb dX9_blend_92 (lv_at hl 0 rfl) ?_
    refine vp_callSi (W.runV (As := [.int 8]) (rest := []) ⟨hx, hb, hml, hown, hts⟩ (s_X9_all l D ws tys h0 k0 _ 8 e0 f3) (cwV 1 hts gX9_blend_X9_all rfl rfl rfl (by decide +kernel) ⟨Nat.le_of_ble_eq_true rfl, Nat.le_of_ble_eq_true rfl⟩) ⟨fun a U g mk q => ⟨q.1, q.2.1, va_K.moved (u := U) (U := U.calling g mk a) (Vm.Alike.refl U.vm) q.2.2⟩, va_recv hK hP (ci := 9) (q0 := k0) rfl e0, fun U hU hW => ⟨rfl, by rw [hU]; exact hP, va_K.moved hW.alike hK⟩⟩ rfl rfl hl.1 rfl (lv_room (Nat.le_of_ble_eq_true rfl)) dX9_blend_94 ⟨Nat.le_of_ble_eq_true rfl, Nat.le_of_ble_eq_true rfl⟩) (fun r_70 k_71 => ?_)
    subst k_71
    refine lv_if_ne (tgt := 102) hx hb dX9_blend_97 (by decide) (fun c_72 => absurd (by decide) c_72) (fun c_72 => ?_)
    refine lv_iconst (v := (-1)) hx hb dX9_blend_100 (by decide) ?_
    exact W.iret (v := (-1)) hx hb hr (fun t ht hW => ⟨(-1), rfl, (by first | rfl | (simp_all; done) | simp [c_1, c_2, c_6, c_10, c_14, c_18, c_19, c_20, c_25, c_26, c_31, c_32, c_37, c_38, c_43, c_44, c_49, c_50, c_55, c_56, c_61, c_62, c_67, c_68, c_69, c_72]), ht⟩) (fun _ h9 => by cases h9) dX9_blend_101
  refine lv_goto (tgt := 114) hx hb dX9_blend_82 (by decide) ?_
  refine lv_iinc (v := 9) (lv' := [(7, .int 9), (6, .int 0), (0, .ref h0), (1, .int a1), (2, .int a2), (3, .int a3), (4, .int a4), (5, .int a5)]) hx hb dX9_blend_114 hl (k := 0) rfl (by decide) (by decide) rfl (fun ls hl => ?_)
  refine lv_goto (tgt := 66) hx hb dX9_blend_117 (by decide) ?_
  refine lv_iload hx hb dX9_blend_66 (lv_at hl 0 rfl) ?_
  refine lv_bipush (v := 10) hx hb dX9_blend_68 (by decide) ?_
  refine lv_icmp_ge (tgt := 120) hx hb dX9_blend_70 (by decide) (fun c_73 => absurd c_73 (by decide)) (fun c_73 => ?_)
  refine lv_iload_n hx hb dX9_blend_73 rfl (lv_at hl 3 rfl) ?_
  refine lv_iload hx hb dX9_blend_74 (lv_at hl 0 rfl) ?_
  refine lv_ishr hx hb dX9_blend_76 ?_
  refine lv_iconst (v := 1) hx hb dX9_blend_77 (by decide) ?_
  refine lv_iand hx hb dX9_blend_78 ?_
  refine lv_if_ne (tgt := 85) hx hb dX9_blend_79 (by decide) (fun c_74 => ?_) (fun c_74 => ?_)
  · refine lv_iload hx hb dX9_blend_85 (lv_at hl 1 rfl) ?_
    refine lv_iconst (v := 4) hx hb dX9_blend_87 (by decide) ?_
    refine lv_icmp_eq (tgt := 100) hx hb dX9_blend_88 (by decide) (fun c_75 => absurd c_75 (by decide)) (fun c_75 => ?_)
    refine lv_aload_n hx hb dX9_blend_91 rfl (lv_at hl 2 rfl) ?_
    refine lv_iload hx hb dX9_blend_92 (lv_at hl 0 rfl) ?_
    refine vp_callSi (W.runV (As := [.int 9]) (rest := []) ⟨hx, hb, hml, hown, hts⟩ (s_X9_all l D ws tys h0 k0 _ 9 e0 f3) (cwV 1 hts gX9_blend_X9_all rfl rfl rfl (by decide +kernel) ⟨Nat.le_of_ble_eq_true rfl, Nat.le_of_ble_eq_true rfl⟩) ⟨fun a U g mk q => ⟨q.1, q.2.1, va_K.moved (u := U) (U := U.calling g mk a) (Vm.Alike.refl U.vm) q.2.2⟩, va_recv hK hP (ci := 9) (q0 := k0) rfl e0, fun U hU hW => ⟨rfl, by rw [hU]; exact hP, va_K.moved hW.alike hK⟩⟩ rfl rfl hl.1 rfl (lv_room (Nat.le_of_ble_eq_true rfl)) dX9_blend_94 ⟨Nat.le_of_ble_eq_true rfl, Nat.le_of_ble_eq_true rfl⟩) (fun r_76 k_77 => ?_)
    subst k_77
    refine lv_if_ne (tgt := 102) hx hb dX9_blend_97 (by decide) (fun c_78 => absurd (by decide) c_78) (fun c_78 => ?_)
    refine lv_iconst (v := (-1)) hx hb dX9_blend_100 (by decide) ?_
    exact W.iret (v := (-1)) hx hb hr (fun t ht hW => ⟨(-1), rfl, (by first | rfl | (simp_all; done) | simp [c_1, c_2, c_6, c_10, c_14, c_18, c_19, c_20, c_25, c_26, c_31, c_32, c_37, c_38, c_43, c_44, c_49, c_50, c_55, c_56, c_61, c_62, c_67, c_68, c_73, c_74, c_75, c_78]), ht⟩) (fun _ h9 => by cases h9) dX9_blend_101
  refine lv_goto (tgt := 114) hx hb dX9_blend_82 (by decide) ?_
  refine lv_iinc (v := 10) (lv' := [(7, .int 10), (6, .int 0), (0, .ref h0), (1, .int a1), (2, .int a2), (3, .int a3), (4, .int a4), (5, .int a5)]) hx hb dX9_blend_114 hl (k := 0) rfl (by decide) (by decide) rfl (fun ls hl => ?_)
  refine lv_goto (tgt := 66) hx hb dX9_blend_117 (by decide) ?_
  refine lv_iload hx hb dX9_blend_66 (lv_at hl 0 rfl) ?_
  refine lv_bipush (v := 10) hx hb dX9_blend_68 (by decide) ?_
  refine lv_icmp_ge (tgt := 120) hx hb dX9_blend_70 (by decide) (fun c_79 => ?_) (fun c_79 => absurd (by decide) c_79)
  obtain ⟨n9, hn9, z9, rfl⟩ := bits_lo c_1 c_2
  exact absurd ⟨c_20, c_26, c_32, c_38, c_44, c_50, c_56, c_62, c_68, c_74⟩ (bits_n n9 hn9 z9)
end
