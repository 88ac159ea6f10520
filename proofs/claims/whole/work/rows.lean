section
/-- a private method of a class that the tables say can be made, by its rows of tables_1 -/
def lw_okq (q : MethodName × Nat) : Prop := (q.1.cls ≠ "java/lang/invoke/MethodHandle" ∧ q.1.cls ≠ "java/lang/invoke/VarHandle") ∧ Cond.instantiable q.1.cls q.2 ∈ tables_1 ∧ Cond.privateMethod q.1 ∈ tables_1 ∧ Cond.instanceMethod q.1 ∈ tables_1
theorem lw_p0 : lw_okq (⟨"SnowInns$Sheet", "faultOfLane", "(I)I"⟩, 3) := ⟨⟨by decide +kernel, by decide +kernel⟩, List.mem_of_getElem? (i := 163) (by decide +kernel), List.mem_of_getElem? (i := 221) (by decide +kernel), List.mem_of_getElem? (i := 222) (by decide +kernel)⟩
theorem lw_p1 : lw_okq (⟨"SnowInns", "faulted", "(I)I"⟩, 8) := ⟨⟨by decide +kernel, by decide +kernel⟩, List.mem_of_getElem? (i := 13) (by decide +kernel), List.mem_of_getElem? (i := 233) (by decide +kernel), List.mem_of_getElem? (i := 234) (by decide +kernel)⟩
theorem lw_p2 : lw_okq (⟨"SnowInns$Text", "takes", "(C)Z"⟩, 4) := ⟨⟨by decide +kernel, by decide +kernel⟩, List.mem_of_getElem? (i := 237) (by decide +kernel), List.mem_of_getElem? (i := 264) (by decide +kernel), List.mem_of_getElem? (i := 265) (by decide +kernel)⟩
theorem lw_p3 : lw_okq (⟨"SnowInns$Text", "readInns", "(LSnowInns$Ridge;)Z"⟩, 4) := ⟨⟨by decide +kernel, by decide +kernel⟩, List.mem_of_getElem? (i := 237) (by decide +kernel), List.mem_of_getElem? (i := 268) (by decide +kernel), List.mem_of_getElem? (i := 269) (by decide +kernel)⟩
theorem lw_p4 : lw_okq (⟨"SnowInns$Text", "takeKind", "()I"⟩, 4) := ⟨⟨by decide +kernel, by decide +kernel⟩, List.mem_of_getElem? (i := 237) (by decide +kernel), List.mem_of_getElem? (i := 272) (by decide +kernel), List.mem_of_getElem? (i := 273) (by decide +kernel)⟩
theorem lw_p5 : lw_okq (⟨"SnowInns$Text", "takeDigit", "(I)I"⟩, 4) := ⟨⟨by decide +kernel, by decide +kernel⟩, List.mem_of_getElem? (i := 237) (by decide +kernel), List.mem_of_getElem? (i := 276) (by decide +kernel), List.mem_of_getElem? (i := 277) (by decide +kernel)⟩
theorem lw_p6 : lw_okq (⟨"SnowInns$Text", "readNights", "(LSnowInns$Ridge;)Z"⟩, 4) := ⟨⟨by decide +kernel, by decide +kernel⟩, List.mem_of_getElem? (i := 237) (by decide +kernel), List.mem_of_getElem? (i := 280) (by decide +kernel), List.mem_of_getElem? (i := 281) (by decide +kernel)⟩
theorem lw_p7 : lw_okq (⟨"SnowInns$Text", "readGuests", "(LSnowInns$Ridge;)Z"⟩, 4) := ⟨⟨by decide +kernel, by decide +kernel⟩, List.mem_of_getElem? (i := 237) (by decide +kernel), List.mem_of_getElem? (i := 284) (by decide +kernel), List.mem_of_getElem? (i := 285) (by decide +kernel)⟩
theorem lw_p8 : lw_okq (⟨"SnowInns$Nights", "snow", "(I)V"⟩, 4) := ⟨⟨by decide +kernel, by decide +kernel⟩, List.mem_of_getElem? (i := 98) (by decide +kernel), List.mem_of_getElem? (i := 382) (by decide +kernel), List.mem_of_getElem? (i := 383) (by decide +kernel)⟩
theorem lw_p9 : lw_okq (⟨"SnowInns$Nights", "keptOf", "(II)I"⟩, 4) := ⟨⟨by decide +kernel, by decide +kernel⟩, List.mem_of_getElem? (i := 98) (by decide +kernel), List.mem_of_getElem? (i := 395) (by decide +kernel), List.mem_of_getElem? (i := 396) (by decide +kernel)⟩
theorem lw_p10 : lw_okq (⟨"SnowInns", "firstElsewhere", "(ILSnowInns$Sheet;II)I"⟩, 8) := ⟨⟨by decide +kernel, by decide +kernel⟩, List.mem_of_getElem? (i := 13) (by decide +kernel), List.mem_of_getElem? (i := 433) (by decide +kernel), List.mem_of_getElem? (i := 434) (by decide +kernel)⟩
theorem lw_p11 : lw_okq (⟨"SnowInns$Trials", "sweepEmptiesRoad", "(IIII)Z"⟩, 4) := ⟨⟨by decide +kernel, by decide +kernel⟩, List.mem_of_getElem? (i := 141) (by decide +kernel), List.mem_of_getElem? (i := 470) (by decide +kernel), List.mem_of_getElem? (i := 471) (by decide +kernel)⟩
theorem lw_p12 : lw_okq (⟨"SnowInns$Trials", "manyOnRoad", "(I)I"⟩, 4) := ⟨⟨by decide +kernel, by decide +kernel⟩, List.mem_of_getElem? (i := 141) (by decide +kernel), List.mem_of_getElem? (i := 493) (by decide +kernel), List.mem_of_getElem? (i := 494) (by decide +kernel)⟩
theorem lw_p13 : lw_okq (⟨"SnowInns$Trials", "bitIfFit", "(I)I"⟩, 4) := ⟨⟨by decide +kernel, by decide +kernel⟩, List.mem_of_getElem? (i := 141) (by decide +kernel), List.mem_of_getElem? (i := 520) (by decide +kernel), List.mem_of_getElem? (i := 521) (by decide +kernel)⟩
theorem lw_p14 : lw_okq (⟨"SnowInns", "castleTelling", "(I)I"⟩, 8) := ⟨⟨by decide +kernel, by decide +kernel⟩, List.mem_of_getElem? (i := 13) (by decide +kernel), List.mem_of_getElem? (i := 616) (by decide +kernel), List.mem_of_getElem? (i := 617) (by decide +kernel)⟩
theorem lw_p15 : lw_okq (⟨"SnowInns", "beginBody", "(I)V"⟩, 8) := ⟨⟨by decide +kernel, by decide +kernel⟩, List.mem_of_getElem? (i := 13) (by decide +kernel), List.mem_of_getElem? (i := 620) (by decide +kernel), List.mem_of_getElem? (i := 621) (by decide +kernel)⟩
def lw_privs_1 : List (MethodName × Nat) := [(⟨"SnowInns$Sheet", "faultOfLane", "(I)I"⟩, 3), (⟨"SnowInns", "faulted", "(I)I"⟩, 8), (⟨"SnowInns$Text", "takes", "(C)Z"⟩, 4), (⟨"SnowInns$Text", "readInns", "(LSnowInns$Ridge;)Z"⟩, 4), (⟨"SnowInns$Text", "takeKind", "()I"⟩, 4), (⟨"SnowInns$Text", "takeDigit", "(I)I"⟩, 4), (⟨"SnowInns$Text", "readNights", "(LSnowInns$Ridge;)Z"⟩, 4), (⟨"SnowInns$Text", "readGuests", "(LSnowInns$Ridge;)Z"⟩, 4), (⟨"SnowInns$Nights", "snow", "(I)V"⟩, 4), (⟨"SnowInns$Nights", "keptOf", "(II)I"⟩, 4), (⟨"SnowInns", "firstElsewhere", "(ILSnowInns$Sheet;II)I"⟩, 8), (⟨"SnowInns$Trials", "sweepEmptiesRoad", "(IIII)Z"⟩, 4), (⟨"SnowInns$Trials", "manyOnRoad", "(I)I"⟩, 4), (⟨"SnowInns$Trials", "bitIfFit", "(I)I"⟩, 4), (⟨"SnowInns", "castleTelling", "(I)I"⟩, 8), (⟨"SnowInns", "beginBody", "(I)V"⟩, 8)]
theorem lw_r1 : ∀ q ∈ lw_privs_1, lw_okq q := List.forall_mem_cons.mpr ⟨lw_p0, List.forall_mem_cons.mpr ⟨lw_p1, List.forall_mem_cons.mpr ⟨lw_p2, List.forall_mem_cons.mpr ⟨lw_p3, List.forall_mem_cons.mpr ⟨lw_p4, List.forall_mem_cons.mpr ⟨lw_p5, List.forall_mem_cons.mpr ⟨lw_p6, List.forall_mem_cons.mpr ⟨lw_p7, List.forall_mem_cons.mpr ⟨lw_p8, List.forall_mem_cons.mpr ⟨lw_p9, List.forall_mem_cons.mpr ⟨lw_p10, List.forall_mem_cons.mpr ⟨lw_p11, List.forall_mem_cons.mpr ⟨lw_p12, List.forall_mem_cons.mpr ⟨lw_p13, List.forall_mem_cons.mpr ⟨lw_p14, List.forall_mem_cons.mpr ⟨lw_p15, fun _ h => absurd h List.not_mem_nil⟩⟩⟩⟩⟩⟩⟩⟩⟩⟩⟩⟩⟩⟩⟩⟩
theorem lw_p16 : lw_okq (⟨"SnowInns", "lodgeTelling", "(I)I"⟩, 8) := ⟨⟨by decide +kernel, by decide +kernel⟩, List.mem_of_getElem? (i := 13) (by decide +kernel), List.mem_of_getElem? (i := 624) (by decide +kernel), List.mem_of_getElem? (i := 625) (by decide +kernel)⟩
theorem lw_p17 : lw_okq (⟨"SnowInns", "innTelling", "(I)I"⟩, 8) := ⟨⟨by decide +kernel, by decide +kernel⟩, List.mem_of_getElem? (i := 13) (by decide +kernel), List.mem_of_getElem? (i := 628) (by decide +kernel), List.mem_of_getElem? (i := 629) (by decide +kernel)⟩
theorem lw_p18 : lw_okq (⟨"SnowInns", "castleLight", "()I"⟩, 8) := ⟨⟨by decide +kernel, by decide +kernel⟩, List.mem_of_getElem? (i := 13) (by decide +kernel), List.mem_of_getElem? (i := 636) (by decide +kernel), List.mem_of_getElem? (i := 637) (by decide +kernel)⟩
theorem lw_p19 : lw_okq (⟨"SnowInns", "lentLight", "(I)I"⟩, 8) := ⟨⟨by decide +kernel, by decide +kernel⟩, List.mem_of_getElem? (i := 13) (by decide +kernel), List.mem_of_getElem? (i := 640) (by decide +kernel), List.mem_of_getElem? (i := 641) (by decide +kernel)⟩
theorem lw_p20 : lw_okq (⟨"SnowInnsModel", "refused", "(I)I"⟩, 34) := ⟨⟨by decide +kernel, by decide +kernel⟩, List.mem_of_getElem? (i := 660) (by decide +kernel), List.mem_of_getElem? (i := 780) (by decide +kernel), List.mem_of_getElem? (i := 781) (by decide +kernel)⟩
theorem lw_p21 : lw_okq (⟨"SnowInnsModel", "cellsBarred", "(IIIJ)I"⟩, 34) := ⟨⟨by decide +kernel, by decide +kernel⟩, List.mem_of_getElem? (i := 660) (by decide +kernel), List.mem_of_getElem? (i := 785) (by decide +kernel), List.mem_of_getElem? (i := 786) (by decide +kernel)⟩
theorem lw_p22 : lw_okq (⟨"SnowInnsModel", "failed", "(I)I"⟩, 34) := ⟨⟨by decide +kernel, by decide +kernel⟩, List.mem_of_getElem? (i := 660) (by decide +kernel), List.mem_of_getElem? (i := 789) (by decide +kernel), List.mem_of_getElem? (i := 790) (by decide +kernel)⟩
theorem lw_p23 : lw_okq (⟨"SnowInnsModel", "readsRidge", "(II)Z"⟩, 34) := ⟨⟨by decide +kernel, by decide +kernel⟩, List.mem_of_getElem? (i := 660) (by decide +kernel), List.mem_of_getElem? (i := 796) (by decide +kernel), List.mem_of_getElem? (i := 797) (by decide +kernel)⟩
theorem lw_p24 : lw_okq (⟨"SnowInnsModel", "codeAt", "(II)I"⟩, 34) := ⟨⟨by decide +kernel, by decide +kernel⟩, List.mem_of_getElem? (i := 660) (by decide +kernel), List.mem_of_getElem? (i := 800) (by decide +kernel), List.mem_of_getElem? (i := 801) (by decide +kernel)⟩
theorem lw_p25 : lw_okq (⟨"SnowInnsModel", "readsInn", "(II)Z"⟩, 34) := ⟨⟨by decide +kernel, by decide +kernel⟩, List.mem_of_getElem? (i := 660) (by decide +kernel), List.mem_of_getElem? (i := 804) (by decide +kernel), List.mem_of_getElem? (i := 805) (by decide +kernel)⟩
theorem lw_p26 : lw_okq (⟨"SnowInnsModel", "figure", "(IIII)I"⟩, 34) := ⟨⟨by decide +kernel, by decide +kernel⟩, List.mem_of_getElem? (i := 660) (by decide +kernel), List.mem_of_getElem? (i := 808) (by decide +kernel), List.mem_of_getElem? (i := 809) (by decide +kernel)⟩
theorem lw_p27 : lw_okq (⟨"SnowInnsModel", "readsNight", "(II)Z"⟩, 34) := ⟨⟨by decide +kernel, by decide +kernel⟩, List.mem_of_getElem? (i := 660) (by decide +kernel), List.mem_of_getElem? (i := 812) (by decide +kernel), List.mem_of_getElem? (i := 813) (by decide +kernel)⟩
theorem lw_p28 : lw_okq (⟨"SnowInnsModel", "readsGuest", "(II)Z"⟩, 34) := ⟨⟨by decide +kernel, by decide +kernel⟩, List.mem_of_getElem? (i := 660) (by decide +kernel), List.mem_of_getElem? (i := 816) (by decide +kernel), List.mem_of_getElem? (i := 817) (by decide +kernel)⟩
theorem lw_p29 : lw_okq (⟨"SnowInnsModel", "noInn", "(I)Z"⟩, 34) := ⟨⟨by decide +kernel, by decide +kernel⟩, List.mem_of_getElem? (i := 660) (by decide +kernel), List.mem_of_getElem? (i := 824) (by decide +kernel), List.mem_of_getElem? (i := 825) (by decide +kernel)⟩
theorem lw_p30 : lw_okq (⟨"SnowInnsModel", "keepsBy", "(II)I"⟩, 34) := ⟨⟨by decide +kernel, by decide +kernel⟩, List.mem_of_getElem? (i := 660) (by decide +kernel), List.mem_of_getElem? (i := 828) (by decide +kernel), List.mem_of_getElem? (i := 829) (by decide +kernel)⟩
theorem lw_p31 : lw_okq (⟨"SnowInnsModel", "noGuest", "(I)Z"⟩, 34) := ⟨⟨by decide +kernel, by decide +kernel⟩, List.mem_of_getElem? (i := 660) (by decide +kernel), List.mem_of_getElem? (i := 836) (by decide +kernel), List.mem_of_getElem? (i := 837) (by decide +kernel)⟩
def lw_privs_2 : List (MethodName × Nat) := [(⟨"SnowInns", "lodgeTelling", "(I)I"⟩, 8), (⟨"SnowInns", "innTelling", "(I)I"⟩, 8), (⟨"SnowInns", "castleLight", "()I"⟩, 8), (⟨"SnowInns", "lentLight", "(I)I"⟩, 8), (⟨"SnowInnsModel", "refused", "(I)I"⟩, 34), (⟨"SnowInnsModel", "cellsBarred", "(IIIJ)I"⟩, 34), (⟨"SnowInnsModel", "failed", "(I)I"⟩, 34), (⟨"SnowInnsModel", "readsRidge", "(II)Z"⟩, 34), (⟨"SnowInnsModel", "codeAt", "(II)I"⟩, 34), (⟨"SnowInnsModel", "readsInn", "(II)Z"⟩, 34), (⟨"SnowInnsModel", "figure", "(IIII)I"⟩, 34), (⟨"SnowInnsModel", "readsNight", "(II)Z"⟩, 34), (⟨"SnowInnsModel", "readsGuest", "(II)Z"⟩, 34), (⟨"SnowInnsModel", "noInn", "(I)Z"⟩, 34), (⟨"SnowInnsModel", "keepsBy", "(II)I"⟩, 34), (⟨"SnowInnsModel", "noGuest", "(I)Z"⟩, 34)]
theorem lw_r2 : ∀ q ∈ lw_privs_2, lw_okq q := List.forall_mem_cons.mpr ⟨lw_p16, List.forall_mem_cons.mpr ⟨lw_p17, List.forall_mem_cons.mpr ⟨lw_p18, List.forall_mem_cons.mpr ⟨lw_p19, List.forall_mem_cons.mpr ⟨lw_p20, List.forall_mem_cons.mpr ⟨lw_p21, List.forall_mem_cons.mpr ⟨lw_p22, List.forall_mem_cons.mpr ⟨lw_p23, List.forall_mem_cons.mpr ⟨lw_p24, List.forall_mem_cons.mpr ⟨lw_p25, List.forall_mem_cons.mpr ⟨lw_p26, List.forall_mem_cons.mpr ⟨lw_p27, List.forall_mem_cons.mpr ⟨lw_p28, List.forall_mem_cons.mpr ⟨lw_p29, List.forall_mem_cons.mpr ⟨lw_p30, List.forall_mem_cons.mpr ⟨lw_p31, fun _ h => absurd h List.not_mem_nil⟩⟩⟩⟩⟩⟩⟩⟩⟩⟩⟩⟩⟩⟩⟩⟩
theorem lw_p32 : lw_okq (⟨"SnowInnsModel", "noNight", "(I)Z"⟩, 34) := ⟨⟨by decide +kernel, by decide +kernel⟩, List.mem_of_getElem? (i := 660) (by decide +kernel), List.mem_of_getElem? (i := 844) (by decide +kernel), List.mem_of_getElem? (i := 845) (by decide +kernel)⟩
theorem lw_p33 : lw_okq (⟨"SnowInnsModel", "swept", "(III)I"⟩, 34) := ⟨⟨by decide +kernel, by decide +kernel⟩, List.mem_of_getElem? (i := 660) (by decide +kernel), List.mem_of_getElem? (i := 870) (by decide +kernel), List.mem_of_getElem? (i := 871) (by decide +kernel)⟩
theorem lw_p34 : lw_okq (⟨"SnowInnsModel", "goNights", "(I)V"⟩, 34) := ⟨⟨by decide +kernel, by decide +kernel⟩, List.mem_of_getElem? (i := 660) (by decide +kernel), List.mem_of_getElem? (i := 878) (by decide +kernel), List.mem_of_getElem? (i := 879) (by decide +kernel)⟩
theorem lw_p35 : lw_okq (⟨"SnowInnsModel", "begin", "()V"⟩, 34) := ⟨⟨by decide +kernel, by decide +kernel⟩, List.mem_of_getElem? (i := 660) (by decide +kernel), List.mem_of_getElem? (i := 882) (by decide +kernel), List.mem_of_getElem? (i := 883) (by decide +kernel)⟩
theorem lw_p36 : lw_okq (⟨"SnowInnsModel", "goNight", "(I)V"⟩, 34) := ⟨⟨by decide +kernel, by decide +kernel⟩, List.mem_of_getElem? (i := 660) (by decide +kernel), List.mem_of_getElem? (i := 886) (by decide +kernel), List.mem_of_getElem? (i := 887) (by decide +kernel)⟩
theorem lw_p37 : lw_okq (⟨"SnowInnsModel", "passOn", "(II)V"⟩, 34) := ⟨⟨by decide +kernel, by decide +kernel⟩, List.mem_of_getElem? (i := 660) (by decide +kernel), List.mem_of_getElem? (i := 890) (by decide +kernel), List.mem_of_getElem? (i := 891) (by decide +kernel)⟩
theorem lw_p38 : lw_okq (⟨"SnowInnsModel", "inBeds", "(I)I"⟩, 34) := ⟨⟨by decide +kernel, by decide +kernel⟩, List.mem_of_getElem? (i := 660) (by decide +kernel), List.mem_of_getElem? (i := 902) (by decide +kernel), List.mem_of_getElem? (i := 903) (by decide +kernel)⟩
theorem lw_p39 : lw_okq (⟨"SnowInnsModel", "noFamily", "(I)Z"⟩, 34) := ⟨⟨by decide +kernel, by decide +kernel⟩, List.mem_of_getElem? (i := 660) (by decide +kernel), List.mem_of_getElem? (i := 914) (by decide +kernel), List.mem_of_getElem? (i := 915) (by decide +kernel)⟩
theorem lw_p40 : lw_okq (⟨"SnowInnsModel", "meetsIn", "(II)I"⟩, 34) := ⟨⟨by decide +kernel, by decide +kernel⟩, List.mem_of_getElem? (i := 660) (by decide +kernel), List.mem_of_getElem? (i := 918) (by decide +kernel), List.mem_of_getElem? (i := 919) (by decide +kernel)⟩
theorem lw_p41 : lw_okq (⟨"SnowInnsModel", "isTogether", "(I)Z"⟩, 34) := ⟨⟨by decide +kernel, by decide +kernel⟩, List.mem_of_getElem? (i := 660) (by decide +kernel), List.mem_of_getElem? (i := 922) (by decide +kernel), List.mem_of_getElem? (i := 923) (by decide +kernel)⟩
theorem lw_p42 : lw_okq (⟨"SnowInnsModel", "isNobodyOut", "(I)Z"⟩, 34) := ⟨⟨by decide +kernel, by decide +kernel⟩, List.mem_of_getElem? (i := 660) (by decide +kernel), List.mem_of_getElem? (i := 930) (by decide +kernel), List.mem_of_getElem? (i := 931) (by decide +kernel)⟩
theorem lw_p43 : lw_okq (⟨"SnowInnsModel", "isBy", "(IIII)Z"⟩, 34) := ⟨⟨by decide +kernel, by decide +kernel⟩, List.mem_of_getElem? (i := 660) (by decide +kernel), List.mem_of_getElem? (i := 934) (by decide +kernel), List.mem_of_getElem? (i := 935) (by decide +kernel)⟩
theorem lw_p44 : lw_okq (⟨"SnowInnsModel", "areSo", "()Z"⟩, 34) := ⟨⟨by decide +kernel, by decide +kernel⟩, List.mem_of_getElem? (i := 660) (by decide +kernel), List.mem_of_getElem? (i := 961) (by decide +kernel), List.mem_of_getElem? (i := 962) (by decide +kernel)⟩
theorem lw_p45 : lw_okq (⟨"SnowInnsModel", "blow", "(II)V"⟩, 34) := ⟨⟨by decide +kernel, by decide +kernel⟩, List.mem_of_getElem? (i := 660) (by decide +kernel), List.mem_of_getElem? (i := 985) (by decide +kernel), List.mem_of_getElem? (i := 986) (by decide +kernel)⟩
theorem lw_p46 : lw_okq (⟨"SnowInnsModel", "noCell", "(II)I"⟩, 34) := ⟨⟨by decide +kernel, by decide +kernel⟩, List.mem_of_getElem? (i := 660) (by decide +kernel), List.mem_of_getElem? (i := 1004) (by decide +kernel), List.mem_of_getElem? (i := 1005) (by decide +kernel)⟩
theorem lw_p47 : lw_okq (⟨"SnowInnsModel", "failedLong", "(I)J"⟩, 34) := ⟨⟨by decide +kernel, by decide +kernel⟩, List.mem_of_getElem? (i := 660) (by decide +kernel), List.mem_of_getElem? (i := 1012) (by decide +kernel), List.mem_of_getElem? (i := 1013) (by decide +kernel)⟩
def lw_privs_3 : List (MethodName × Nat) := [(⟨"SnowInnsModel", "noNight", "(I)Z"⟩, 34), (⟨"SnowInnsModel", "swept", "(III)I"⟩, 34), (⟨"SnowInnsModel", "goNights", "(I)V"⟩, 34), (⟨"SnowInnsModel", "begin", "()V"⟩, 34), (⟨"SnowInnsModel", "goNight", "(I)V"⟩, 34), (⟨"SnowInnsModel", "passOn", "(II)V"⟩, 34), (⟨"SnowInnsModel", "inBeds", "(I)I"⟩, 34), (⟨"SnowInnsModel", "noFamily", "(I)Z"⟩, 34), (⟨"SnowInnsModel", "meetsIn", "(II)I"⟩, 34), (⟨"SnowInnsModel", "isTogether", "(I)Z"⟩, 34), (⟨"SnowInnsModel", "isNobodyOut", "(I)Z"⟩, 34), (⟨"SnowInnsModel", "isBy", "(IIII)Z"⟩, 34), (⟨"SnowInnsModel", "areSo", "()Z"⟩, 34), (⟨"SnowInnsModel", "blow", "(II)V"⟩, 34), (⟨"SnowInnsModel", "noCell", "(II)I"⟩, 34), (⟨"SnowInnsModel", "failedLong", "(I)J"⟩, 34)]
theorem lw_r3 : ∀ q ∈ lw_privs_3, lw_okq q := List.forall_mem_cons.mpr ⟨lw_p32, List.forall_mem_cons.mpr ⟨lw_p33, List.forall_mem_cons.mpr ⟨lw_p34, List.forall_mem_cons.mpr ⟨lw_p35, List.forall_mem_cons.mpr ⟨lw_p36, List.forall_mem_cons.mpr ⟨lw_p37, List.forall_mem_cons.mpr ⟨lw_p38, List.forall_mem_cons.mpr ⟨lw_p39, List.forall_mem_cons.mpr ⟨lw_p40, List.forall_mem_cons.mpr ⟨lw_p41, List.forall_mem_cons.mpr ⟨lw_p42, List.forall_mem_cons.mpr ⟨lw_p43, List.forall_mem_cons.mpr ⟨lw_p44, List.forall_mem_cons.mpr ⟨lw_p45, List.forall_mem_cons.mpr ⟨lw_p46, List.forall_mem_cons.mpr ⟨lw_p47, fun _ h => absurd h List.not_mem_nil⟩⟩⟩⟩⟩⟩⟩⟩⟩⟩⟩⟩⟩⟩⟩⟩
theorem lw_p48 : lw_okq (⟨"SnowInnsModel", "traced", "(I)V"⟩, 34) := ⟨⟨by decide +kernel, by decide +kernel⟩, List.mem_of_getElem? (i := 660) (by decide +kernel), List.mem_of_getElem? (i := 1024) (by decide +kernel), List.mem_of_getElem? (i := 1025) (by decide +kernel)⟩
def lw_privs_4 : List (MethodName × Nat) := [(⟨"SnowInnsModel", "traced", "(I)V"⟩, 34)]
theorem lw_r4 : ∀ q ∈ lw_privs_4, lw_okq q := List.forall_mem_cons.mpr ⟨lw_p48, fun _ h => absurd h List.not_mem_nil⟩
def lw_privs : List (MethodName × Nat) := lw_privs_1 ++ (lw_privs_2 ++ (lw_privs_3 ++ (lw_privs_4)))
def lw_tbl : List Cond := k2_sels lw_privs ++ tables_1
theorem lw_privs_ok : ∀ q ∈ lw_privs, lw_okq q := by
  show ∀ q ∈ lw_privs_1 ++ (lw_privs_2 ++ (lw_privs_3 ++ (lw_privs_4))), lw_okq q
  exact List.forall_mem_append.mpr ⟨lw_r1, List.forall_mem_append.mpr ⟨lw_r2, List.forall_mem_append.mpr ⟨lw_r3, lw_r4⟩⟩⟩
end
section
def RX0 : String := "SnowInns$Nights"
def TX0 : u_T := fun k => match k with
  | 0 => ("SnowInns$Nights", "ridge", "LSnowInns$Ridge;", true)
  | 1 => ("SnowInns$Nights", "inches", "[[I", true)
  | 2 => ("SnowInns$Nights", "guests", "[[I", true)
  | _ => ("SnowInns$Nights", "gate", "[I", true)
def tyX0 : Nat → FieldType := fun k => match k with
  | 0 => .object "SnowInns$Ridge"
  | 1 => .array (.array .int)
  | 2 => .array (.array .int)
  | _ => .array .int
abbrev wsX00 : List Cond := u_ws RX0 TX0 4
theorem nmX0 : ∀ a, a < 4 → ∀ b, b < 4 → a ≠ b → (TX0 a).2.1 ≠ (TX0 b).2.1 := by decide +kernel
theorem tyX0_ok : ∀ k, k < 4 → parseFieldDescriptor (TX0 k).2.2.1 = some (tyX0 k) := by decide +kernel
abbrev cX0_init : ByteArray := prog_2_method_1_code
def yX0_init : MethodName := ⟨RX0, "<init>", "(LSnowInns$Ridge;)V"⟩
abbrev cX0_run : ByteArray := prog_2_method_2_code
def yX0_run : MethodName := ⟨RX0, "run", "(I)V"⟩
abbrev cX0_begin : ByteArray := prog_2_method_3_code
def yX0_begin : MethodName := ⟨RX0, "begin", "()V"⟩
abbrev cX0_pass : ByteArray := prog_2_method_4_code
def yX0_pass : MethodName := ⟨RX0, "pass", "(II)V"⟩
abbrev cX0_snow : ByteArray := prog_2_method_5_code
def yX0_snow : MethodName := ⟨RX0, "snow", "(I)V"⟩
abbrev cX0_keptOf : ByteArray := prog_2_method_6_code
def yX0_keptOf : MethodName := ⟨RX0, "keptOf", "(II)I"⟩
abbrev cX0_withoutLeast : ByteArray := prog_2_method_7_code
def yX0_withoutLeast : MethodName := ⟨RX0, "withoutLeast", "(II)I"⟩
abbrev cX0_onRoad : ByteArray := prog_2_method_8_code
def yX0_onRoad : MethodName := ⟨RX0, "onRoad", "(I)I"⟩
abbrev cX0_placeOf : ByteArray := prog_2_method_9_code
def yX0_placeOf : MethodName := ⟨RX0, "placeOf", "(II)I"⟩
abbrev cX0_isAt : ByteArray := prog_2_method_10_code
def yX0_isAt : MethodName := ⟨RX0, "isAt", "(III)Z"⟩
abbrev cX0_isMeeting : ByteArray := prog_2_method_11_code
def yX0_isMeeting : MethodName := ⟨RX0, "isMeeting", "(II)Z"⟩
abbrev cX0_firstMeeting : ByteArray := prog_2_method_12_code
def yX0_firstMeeting : MethodName := ⟨RX0, "firstMeeting", "(II)I"⟩
abbrev cX0_leaveRoadEmpty : ByteArray := prog_2_method_13_code
def yX0_leaveRoadEmpty : MethodName := ⟨RX0, "leaveRoadEmpty", "(I)Z"⟩
def RX1 : String := "SnowInns$Readings"
def TX1 : u_T := fun k => match k with
  | 0 => ("SnowInns$Readings", "count", "I", false)
  | 1 => ("SnowInns$Readings", "guest", "[I", true)
  | 2 => ("SnowInns$Readings", "place", "[I", true)
  | _ => ("SnowInns$Readings", "night", "[I", true)
def tyX1 : Nat → FieldType := fun k => match k with
  | 0 => .int
  | 1 => .array .int
  | 2 => .array .int
  | _ => .array .int
abbrev wsX10 : List Cond := u_ws RX1 TX1 4
theorem nmX1 : ∀ a, a < 4 → ∀ b, b < 4 → a ≠ b → (TX1 a).2.1 ≠ (TX1 b).2.1 := by decide +kernel
theorem tyX1_ok : ∀ k, k < 4 → parseFieldDescriptor (TX1 k).2.2.1 = some (tyX1 k) := by decide +kernel
abbrev cX1_init : ByteArray := prog_3_method_1_code
def yX1_init : MethodName := ⟨RX1, "<init>", "()V"⟩
abbrev cX1_clear : ByteArray := prog_3_method_2_code
def yX1_clear : MethodName := ⟨RX1, "clear", "()V"⟩
abbrev cX1_add : ByteArray := prog_3_method_3_code
def yX1_add : MethodName := ⟨RX1, "add", "(III)I"⟩
abbrev cX1_areSo : ByteArray := prog_3_method_4_code
def yX1_areSo : MethodName := ⟨RX1, "areSo", "(LSnowInns$Nights;)Z"⟩
def RX2 : String := "SnowInns$Ridge"
def TX2 : u_T := fun k => match k with
  | 0 => ("SnowInns$Ridge", "inns", "I", false)
  | 1 => ("SnowInns$Ridge", "kind", "[I", true)
  | 2 => ("SnowInns$Ridge", "inches", "[I", true)
  | 3 => ("SnowInns$Ridge", "nights", "I", false)
  | 4 => ("SnowInns$Ridge", "wind", "[I", true)
  | 5 => ("SnowInns$Ridge", "fall", "[I", true)
  | 6 => ("SnowInns$Ridge", "guests", "I", false)
  | 7 => ("SnowInns$Ridge", "family", "[I", true)
  | 8 => ("SnowInns$Ridge", "home", "[I", true)
  | 9 => ("SnowInns$Ridge", "rule", "I", false)
  | _ => ("SnowInns$Ridge", "roomier", "I", false)
def tyX2 : Nat → FieldType := fun k => match k with
  | 0 => .int
  | 1 => .array .int
  | 2 => .array .int
  | 3 => .int
  | 4 => .array .int
  | 5 => .array .int
  | 6 => .int
  | 7 => .array .int
  | 8 => .array .int
  | 9 => .int
  | _ => .int
abbrev wsX20 : List Cond := u_ws RX2 TX2 11
theorem nmX2 : ∀ a, a < 11 → ∀ b, b < 11 → a ≠ b → (TX2 a).2.1 ≠ (TX2 b).2.1 := by decide +kernel
theorem tyX2_ok : ∀ k, k < 11 → parseFieldDescriptor (TX2 k).2.2.1 = some (tyX2 k) := by decide +kernel
abbrev cX2_init : ByteArray := prog_4_method_1_code
def yX2_init : MethodName := ⟨RX2, "<init>", "()V"⟩
abbrev cX2_clear : ByteArray := prog_4_method_2_code
def yX2_clear : MethodName := ⟨RX2, "clear", "()V"⟩
abbrev cX2_become : ByteArray := prog_4_method_3_code
def yX2_become : MethodName := ⟨RX2, "become", "(LSnowInns$Ridge;)V"⟩
abbrev cX2_stands : ByteArray := prog_4_method_4_code
def yX2_stands : MethodName := ⟨RX2, "stands", "()Z"⟩
abbrev cX2_hasInn : ByteArray := prog_4_method_5_code
def yX2_hasInn : MethodName := ⟨RX2, "hasInn", "(I)Z"⟩
abbrev cX2_hasInnOrRoad : ByteArray := prog_4_method_6_code
def yX2_hasInnOrRoad : MethodName := ⟨RX2, "hasInnOrRoad", "(I)Z"⟩
abbrev cX2_hasGuest : ByteArray := prog_4_method_7_code
def yX2_hasGuest : MethodName := ⟨RX2, "hasGuest", "(I)Z"⟩
abbrev cX2_hasNight : ByteArray := prog_4_method_8_code
def yX2_hasNight : MethodName := ⟨RX2, "hasNight", "(I)Z"⟩
abbrev cX2_countsNights : ByteArray := prog_4_method_9_code
def yX2_countsNights : MethodName := ⟨RX2, "countsNights", "(I)Z"⟩
abbrev cX2_membersOf : ByteArray := prog_4_method_10_code
def yX2_membersOf : MethodName := ⟨RX2, "membersOf", "(I)I"⟩
abbrev cX2_keepsBy : ByteArray := prog_4_method_11_code
def yX2_keepsBy : MethodName := ⟨RX2, "keepsBy", "(II)I"⟩
abbrev cX2_roomBy : ByteArray := prog_4_method_12_code
def yX2_roomBy : MethodName := ⟨RX2, "roomBy", "(II)I"⟩
abbrev cX2_sweepOver : ByteArray := prog_4_method_13_code
def yX2_sweepOver : MethodName := ⟨RX2, "sweepOver", "(III)I"⟩
def RX3 : String := "SnowInns$Sheet"
def TX3 : u_T := fun k => match k with
  | 0 => ("SnowInns$Sheet", "cells", "[I", true)
  | 1 => ("SnowInns$Sheet", "lane", "I", false)
  | _ => ("SnowInns$Sheet", "length", "I", false)
def tyX3 : Nat → FieldType := fun k => match k with
  | 0 => .array .int
  | 1 => .int
  | _ => .int
abbrev wsX30 : List Cond := u_ws RX3 TX3 3
theorem nmX3 : ∀ a, a < 3 → ∀ b, b < 3 → a ≠ b → (TX3 a).2.1 ≠ (TX3 b).2.1 := by decide +kernel
theorem tyX3_ok : ∀ k, k < 3 → parseFieldDescriptor (TX3 k).2.2.1 = some (tyX3 k) := by decide +kernel
abbrev cX3_init : ByteArray := prog_5_method_1_code
def yX3_init : MethodName := ⟨RX3, "<init>", "()V"⟩
abbrev cX3_renew : ByteArray := prog_5_method_2_code
def yX3_renew : MethodName := ⟨RX3, "renew", "(II)V"⟩
abbrev cX3_clear : ByteArray := prog_5_method_3_code
def yX3_clear : MethodName := ⟨RX3, "clear", "()V"⟩
abbrev cX3_isThere : ByteArray := prog_5_method_4_code
def yX3_isThere : MethodName := ⟨RX3, "isThere", "()Z"⟩
abbrev cX3_hasCell : ByteArray := prog_5_method_5_code
def yX3_hasCell : MethodName := ⟨RX3, "hasCell", "(I)Z"⟩
abbrev cX3_hasCells : ByteArray := prog_5_method_6_code
def yX3_hasCells : MethodName := ⟨RX3, "hasCells", "(II)Z"⟩
abbrev cX3_write : ByteArray := prog_5_method_7_code
def yX3_write : MethodName := ⟨RX3, "write", "(II)V"⟩
abbrev cX3_faultOfCell : ByteArray := prog_5_method_8_code
def yX3_faultOfCell : MethodName := ⟨RX3, "faultOfCell", "(II)I"⟩
abbrev cX3_faultOfRow : ByteArray := prog_5_method_9_code
def yX3_faultOfRow : MethodName := ⟨RX3, "faultOfRow", "(III)I"⟩
abbrev cX3_faultOfLane : ByteArray := prog_5_method_10_code
def yX3_faultOfLane : MethodName := ⟨RX3, "faultOfLane", "(I)I"⟩
def RX4 : String := "SnowInns$Text"
def TX4 : u_T := fun k => match k with
  | 0 => ("SnowInns$Text", "codes", "[I", true)
  | 1 => ("SnowInns$Text", "from", "I", true)
  | 2 => ("SnowInns$Text", "length", "I", true)
  | _ => ("SnowInns$Text", "at", "I", false)
def tyX4 : Nat → FieldType := fun k => match k with
  | 0 => .array .int
  | 1 => .int
  | 2 => .int
  | _ => .int
abbrev wsX40 : List Cond := u_ws RX4 TX4 4
theorem nmX4 : ∀ a, a < 4 → ∀ b, b < 4 → a ≠ b → (TX4 a).2.1 ≠ (TX4 b).2.1 := by decide +kernel
theorem tyX4_ok : ∀ k, k < 4 → parseFieldDescriptor (TX4 k).2.2.1 = some (tyX4 k) := by decide +kernel
abbrev cX4_init : ByteArray := prog_6_method_1_code
def yX4_init : MethodName := ⟨RX4, "<init>", "(LSnowInns$Sheet;II)V"⟩
abbrev cX4_place : ByteArray := prog_6_method_2_code
def yX4_place : MethodName := ⟨RX4, "place", "()I"⟩
abbrev cX4_readInto : ByteArray := prog_6_method_3_code
def yX4_readInto : MethodName := ⟨RX4, "readInto", "(LSnowInns$Ridge;)Z"⟩
abbrev cX4_readInns : ByteArray := prog_6_method_4_code
def yX4_readInns : MethodName := ⟨RX4, "readInns", "(LSnowInns$Ridge;)Z"⟩
abbrev cX4_readNights : ByteArray := prog_6_method_5_code
def yX4_readNights : MethodName := ⟨RX4, "readNights", "(LSnowInns$Ridge;)Z"⟩
abbrev cX4_readGuests : ByteArray := prog_6_method_6_code
def yX4_readGuests : MethodName := ⟨RX4, "readGuests", "(LSnowInns$Ridge;)Z"⟩
abbrev cX4_takeKind : ByteArray := prog_6_method_7_code
def yX4_takeKind : MethodName := ⟨RX4, "takeKind", "()I"⟩
abbrev cX4_takes : ByteArray := prog_6_method_8_code
def yX4_takes : MethodName := ⟨RX4, "takes", "(C)Z"⟩
abbrev cX4_takeDigit : ByteArray := prog_6_method_9_code
def yX4_takeDigit : MethodName := ⟨RX4, "takeDigit", "(I)I"⟩
def RX5 : String := "SnowInns$Trials"
def TX5 : u_T := fun k => match k with
  | 0 => ("SnowInns$Trials", "ridge", "LSnowInns$Ridge;", true)
  | 1 => ("SnowInns$Trials", "readings", "LSnowInns$Readings;", true)
  | 2 => ("SnowInns$Trials", "trial", "LSnowInns$Ridge;", true)
  | _ => ("SnowInns$Trials", "nights", "LSnowInns$Nights;", true)
def tyX5 : Nat → FieldType := fun k => match k with
  | 0 => .object "SnowInns$Ridge"
  | 1 => .object "SnowInns$Readings"
  | 2 => .object "SnowInns$Ridge"
  | _ => .object "SnowInns$Nights"
abbrev wsX50 : List Cond := u_ws RX5 TX5 4
theorem nmX5 : ∀ a, a < 4 → ∀ b, b < 4 → a ≠ b → (TX5 a).2.1 ≠ (TX5 b).2.1 := by decide +kernel
theorem tyX5_ok : ∀ k, k < 4 → parseFieldDescriptor (TX5 k).2.2.1 = some (tyX5 k) := by decide +kernel
abbrev cX5_init : ByteArray := prog_7_method_1_code
def yX5_init : MethodName := ⟨RX5, "<init>", "(LSnowInns$Ridge;LSnowInns$Readings;)V"⟩
abbrev cX5_leastSweep : ByteArray := prog_7_method_2_code
def yX5_leastSweep : MethodName := ⟨RX5, "leastSweep", "(II)I"⟩
abbrev cX5_sweepEmptiesRoad : ByteArray := prog_7_method_3_code
def yX5_sweepEmptiesRoad : MethodName := ⟨RX5, "sweepEmptiesRoad", "(IIII)Z"⟩
abbrev cX5_firstTurn : ByteArray := prog_7_method_4_code
def yX5_firstTurn : MethodName := ⟨RX5, "firstTurn", "(II)I"⟩
abbrev cX5_innsThatCork : ByteArray := prog_7_method_5_code
def yX5_innsThatCork : MethodName := ⟨RX5, "innsThatCork", "(I)I"⟩
abbrev cX5_manyOnRoad : ByteArray := prog_7_method_6_code
def yX5_manyOnRoad : MethodName := ⟨RX5, "manyOnRoad", "(I)I"⟩
abbrev cX5_rulesThatFit : ByteArray := prog_7_method_7_code
def yX5_rulesThatFit : MethodName := ⟨RX5, "rulesThatFit", "()I"⟩
abbrev cX5_kindsThatFit : ByteArray := prog_7_method_8_code
def yX5_kindsThatFit : MethodName := ⟨RX5, "kindsThatFit", "(I)I"⟩
abbrev cX5_depthsThatFit : ByteArray := prog_7_method_9_code
def yX5_depthsThatFit : MethodName := ⟨RX5, "depthsThatFit", "(I)I"⟩
abbrev cX5_fallsThatFit : ByteArray := prog_7_method_10_code
def yX5_fallsThatFit : MethodName := ⟨RX5, "fallsThatFit", "(I)I"⟩
abbrev cX5_bitIfFit : ByteArray := prog_7_method_11_code
def yX5_bitIfFit : MethodName := ⟨RX5, "bitIfFit", "(I)I"⟩
abbrev cX5_windsThatMeet : ByteArray := prog_7_method_12_code
def yX5_windsThatMeet : MethodName := ⟨RX5, "windsThatMeet", "(II)I"⟩
abbrev cX5_meetingWinds : ByteArray := prog_7_method_13_code
def yX5_meetingWinds : MethodName := ⟨RX5, "meetingWinds", "(LSnowInns$Nights;III)I"⟩
def RX6 : String := "SnowInns"
def TX6 : u_T := fun k => match k with
  | 0 => ("SnowInns", "sheets", "[LSnowInns$Sheet;", true)
  | 1 => ("SnowInns", "ridge", "LSnowInns$Ridge;", true)
  | 2 => ("SnowInns", "draft", "LSnowInns$Ridge;", true)
  | 3 => ("SnowInns", "nights", "LSnowInns$Nights;", true)
  | 4 => ("SnowInns", "readings", "LSnowInns$Readings;", true)
  | 5 => ("SnowInns", "trials", "LSnowInns$Trials;", true)
  | 6 => ("SnowInns", "latestFault", "I", false)
  | _ => ("SnowInns", "traced", "I", false)
def tyX6 : Nat → FieldType := fun k => match k with
  | 0 => .array (.object "SnowInns$Sheet")
  | 1 => .object "SnowInns$Ridge"
  | 2 => .object "SnowInns$Ridge"
  | 3 => .object "SnowInns$Nights"
  | 4 => .object "SnowInns$Readings"
  | 5 => .object "SnowInns$Trials"
  | 6 => .int
  | _ => .int
abbrev wsX60 : List Cond := u_ws RX6 TX6 8
theorem nmX6 : ∀ a, a < 8 → ∀ b, b < 8 → a ≠ b → (TX6 a).2.1 ≠ (TX6 b).2.1 := by decide +kernel
theorem tyX6_ok : ∀ k, k < 8 → parseFieldDescriptor (TX6 k).2.2.1 = some (tyX6 k) := by decide +kernel
abbrev cX6_init : ByteArray := prog_1_method_1_code
def yX6_init : MethodName := ⟨RX6, "<init>", "()V"⟩
abbrev cX6_ridge : ByteArray := prog_1_method_2_code
def yX6_ridge : MethodName := ⟨RX6, "ridge", "(IIII)I"⟩
abbrev cX6_ofInn : ByteArray := prog_1_method_3_code
def yX6_ofInn : MethodName := ⟨RX6, "ofInn", "(II)I"⟩
abbrev cX6_ofGuest : ByteArray := prog_1_method_4_code
def yX6_ofGuest : MethodName := ⟨RX6, "ofGuest", "(II)I"⟩
abbrev cX6_ofNight : ByteArray := prog_1_method_5_code
def yX6_ofNight : MethodName := ⟨RX6, "ofNight", "(II)I"⟩
abbrev cX6_rule : ByteArray := prog_1_method_6_code
def yX6_rule : MethodName := ⟨RX6, "rule", "(I)I"⟩
abbrev cX6_fall : ByteArray := prog_1_method_7_code
def yX6_fall : MethodName := ⟨RX6, "fall", "(II)I"⟩
abbrev cX6_gust : ByteArray := prog_1_method_8_code
def yX6_gust : MethodName := ⟨RX6, "gust", "(IZ)I"⟩
abbrev cX6_lodge : ByteArray := prog_1_method_9_code
def yX6_lodge : MethodName := ⟨RX6, "lodge", "(II)I"⟩
abbrev cX6_sweep : ByteArray := prog_1_method_10_code
def yX6_sweep : MethodName := ⟨RX6, "sweep", "(IZI)I"⟩
abbrev cX6_where : ByteArray := prog_1_method_11_code
def yX6_where : MethodName := ⟨RX6, "where", "(II)I"⟩
abbrev cX6_deep : ByteArray := prog_1_method_12_code
def yX6_deep : MethodName := ⟨RX6, "deep", "(II)I"⟩
abbrev cX6_beds : ByteArray := prog_1_method_13_code
def yX6_beds : MethodName := ⟨RX6, "beds", "(II)I"⟩
abbrev cX6_list : ByteArray := prog_1_method_14_code
def yX6_list : MethodName := ⟨RX6, "list", "(IIIII)I"⟩
abbrev cX6_meet : ByteArray := prog_1_method_15_code
def yX6_meet : MethodName := ⟨RX6, "meet", "(I)I"⟩
abbrev cX6_least : ByteArray := prog_1_method_16_code
def yX6_least : MethodName := ⟨RX6, "least", "(II)I"⟩
abbrev cX6_turn : ByteArray := prog_1_method_17_code
def yX6_turn : MethodName := ⟨RX6, "turn", "(II)I"⟩
abbrev cX6_corks : ByteArray := prog_1_method_18_code
def yX6_corks : MethodName := ⟨RX6, "corks", "(I)I"⟩
abbrev cX6_reading : ByteArray := prog_1_method_19_code
def yX6_reading : MethodName := ⟨RX6, "reading", "(III)I"⟩
abbrev cX6_back : ByteArray := prog_1_method_20_code
def yX6_back : MethodName := ⟨RX6, "back", "(I)I"⟩
abbrev cX6_rules : ByteArray := prog_1_method_21_code
def yX6_rules : MethodName := ⟨RX6, "rules", "()I"⟩
abbrev cX6_kinds : ByteArray := prog_1_method_22_code
def yX6_kinds : MethodName := ⟨RX6, "kinds", "(I)I"⟩
abbrev cX6_depths : ByteArray := prog_1_method_23_code
def yX6_depths : MethodName := ⟨RX6, "depths", "(I)I"⟩
abbrev cX6_falls : ByteArray := prog_1_method_24_code
def yX6_falls : MethodName := ⟨RX6, "falls", "(I)I"⟩
abbrev cX6_odds : ByteArray := prog_1_method_25_code
def yX6_odds : MethodName := ⟨RX6, "odds", "(III)J"⟩
abbrev cX6_sheet : ByteArray := prog_1_method_26_code
def yX6_sheet : MethodName := ⟨RX6, "sheet", "(III)I"⟩
abbrev cX6_lose : ByteArray := prog_1_method_27_code
def yX6_lose : MethodName := ⟨RX6, "lose", "(I)I"⟩
abbrev cX6_put : ByteArray := prog_1_method_28_code
def yX6_put : MethodName := ⟨RX6, "put", "(III)I"⟩
abbrev cX6_cell : ByteArray := prog_1_method_29_code
def yX6_cell : MethodName := ⟨RX6, "cell", "(III)J"⟩
abbrev cX6_copy : ByteArray := prog_1_method_30_code
def yX6_copy : MethodName := ⟨RX6, "copy", "(IIIII)I"⟩
abbrev cX6_tell : ByteArray := prog_1_method_31_code
def yX6_tell : MethodName := ⟨RX6, "tell", "(I)I"⟩
abbrev cX6_light : ByteArray := prog_1_method_32_code
def yX6_light : MethodName := ⟨RX6, "light", "(I)I"⟩
abbrev cX6_as : ByteArray := prog_1_method_33_code
def yX6_as : MethodName := ⟨RX6, "as", "(II)I"⟩
abbrev cX6_trace : ByteArray := prog_1_method_34_code
def yX6_trace : MethodName := ⟨RX6, "trace", "()I"⟩
abbrev cX6_fault : ByteArray := prog_1_method_35_code
def yX6_fault : MethodName := ⟨RX6, "fault", "()I"⟩
abbrev cX6_many : ByteArray := prog_1_method_36_code
def yX6_many : MethodName := ⟨RX6, "many", "(I)I"⟩
abbrev cX6_isSheet : ByteArray := prog_1_method_37_code
def yX6_isSheet : MethodName := ⟨RX6, "isSheet", "(I)Z"⟩
abbrev cX6_isLane : ByteArray := prog_1_method_38_code
def yX6_isLane : MethodName := ⟨RX6, "isLane", "(I)Z"⟩
abbrev cX6_faulted : ByteArray := prog_1_method_39_code
def yX6_faulted : MethodName := ⟨RX6, "faulted", "(I)I"⟩
abbrev cX6_firstElsewhere : ByteArray := prog_1_method_40_code
def yX6_firstElsewhere : MethodName := ⟨RX6, "firstElsewhere", "(ILSnowInns$Sheet;II)I"⟩
abbrev cX6_beginBody : ByteArray := prog_1_method_41_code
def yX6_beginBody : MethodName := ⟨RX6, "beginBody", "(I)V"⟩
abbrev cX6_innTelling : ByteArray := prog_1_method_42_code
def yX6_innTelling : MethodName := ⟨RX6, "innTelling", "(I)I"⟩
abbrev cX6_lodgeTelling : ByteArray := prog_1_method_43_code
def yX6_lodgeTelling : MethodName := ⟨RX6, "lodgeTelling", "(I)I"⟩
abbrev cX6_castleTelling : ByteArray := prog_1_method_44_code
def yX6_castleTelling : MethodName := ⟨RX6, "castleTelling", "(I)I"⟩
abbrev cX6_lentLight : ByteArray := prog_1_method_45_code
def yX6_lentLight : MethodName := ⟨RX6, "lentLight", "(I)I"⟩
abbrev cX6_castleLight : ByteArray := prog_1_method_46_code
def yX6_castleLight : MethodName := ⟨RX6, "castleLight", "()I"⟩
def RX7 : String := "SnowInnsModel"
def TX7 : u_T := fun k => match k with
  | 0 => ("SnowInnsModel", "fault", "I", false)
  | 1 => ("SnowInnsModel", "inns", "I", false)
  | 2 => ("SnowInnsModel", "kindOf", "[I", true)
  | 3 => ("SnowInnsModel", "inchesOf", "[I", true)
  | 4 => ("SnowInnsModel", "nights", "I", false)
  | 5 => ("SnowInnsModel", "windOf", "[I", true)
  | 6 => ("SnowInnsModel", "fallOf", "[I", true)
  | 7 => ("SnowInnsModel", "guests", "I", false)
  | 8 => ("SnowInnsModel", "familyOf", "[I", true)
  | 9 => ("SnowInnsModel", "innOf", "[I", true)
  | 10 => ("SnowInnsModel", "ruleNow", "I", false)
  | 11 => ("SnowInnsModel", "corked", "I", false)
  | 12 => ("SnowInnsModel", "readAt", "I", false)
  | 13 => ("SnowInnsModel", "readInns", "I", false)
  | 14 => ("SnowInnsModel", "readNights", "I", false)
  | 15 => ("SnowInnsModel", "readGuests", "I", false)
  | 16 => ("SnowInnsModel", "readKind", "[I", true)
  | 17 => ("SnowInnsModel", "readInches", "[I", true)
  | 18 => ("SnowInnsModel", "readWind", "[I", true)
  | 19 => ("SnowInnsModel", "readFall", "[I", true)
  | 20 => ("SnowInnsModel", "readFamily", "[I", true)
  | 21 => ("SnowInnsModel", "readInn", "[I", true)
  | 22 => ("SnowInnsModel", "isAt", "[I", true)
  | 23 => ("SnowInnsModel", "deepAt", "[I", true)
  | 24 => ("SnowInnsModel", "byInn", "I", false)
  | 25 => ("SnowInnsModel", "readings", "I", false)
  | 26 => ("SnowInnsModel", "readingOf", "[I", true)
  | 27 => ("SnowInnsModel", "readingAt", "[I", true)
  | 28 => ("SnowInnsModel", "readingIn", "[I", true)
  | 29 => ("SnowInnsModel", "sheetSize", "[I", true)
  | 30 => ("SnowInnsModel", "sheetLane", "[I", true)
  | 31 => ("SnowInnsModel", "sheet", "[I", true)
  | 32 => ("SnowInnsModel", "hands", "[I", true)
  | _ => ("SnowInnsModel", "traceNow", "I", false)
def tyX7 : Nat → FieldType := fun k => match k with
  | 0 => .int
  | 1 => .int
  | 2 => .array .int
  | 3 => .array .int
  | 4 => .int
  | 5 => .array .int
  | 6 => .array .int
  | 7 => .int
  | 8 => .array .int
  | 9 => .array .int
  | 10 => .int
  | 11 => .int
  | 12 => .int
  | 13 => .int
  | 14 => .int
  | 15 => .int
  | 16 => .array .int
  | 17 => .array .int
  | 18 => .array .int
  | 19 => .array .int
  | 20 => .array .int
  | 21 => .array .int
  | 22 => .array .int
  | 23 => .array .int
  | 24 => .int
  | 25 => .int
  | 26 => .array .int
  | 27 => .array .int
  | 28 => .array .int
  | 29 => .array .int
  | 30 => .array .int
  | 31 => .array .int
  | 32 => .array .int
  | _ => .int
abbrev wsX70 : List Cond := u_ws RX7 TX7 34
theorem nmX7 : ∀ a, a < 34 → ∀ b, b < 34 → a ≠ b → (TX7 a).2.1 ≠ (TX7 b).2.1 := by decide +kernel
theorem tyX7_ok : ∀ k, k < 34 → parseFieldDescriptor (TX7 k).2.2.1 = some (tyX7 k) := by decide +kernel
abbrev cX7_init : ByteArray := prog_9_method_1_code
def yX7_init : MethodName := ⟨RX7, "<init>", "()V"⟩
abbrev cX7_in : ByteArray := prog_9_method_2_code
def yX7_in : MethodName := ⟨RX7, "in", "(JJJ)Z"⟩
abbrev cX7_lost : ByteArray := prog_9_method_3_code
def yX7_lost : MethodName := ⟨RX7, "lost", "()J"⟩
abbrev cX7_share : ByteArray := prog_9_method_4_code
def yX7_share : MethodName := ⟨RX7, "share", "(JJI)J"⟩
abbrev cX7_refused : ByteArray := prog_9_method_5_code
def yX7_refused : MethodName := ⟨RX7, "refused", "(I)I"⟩
abbrev cX7_failed : ByteArray := prog_9_method_6_code
def yX7_failed : MethodName := ⟨RX7, "failed", "(I)I"⟩
abbrev cX7_failedLong : ByteArray := prog_9_method_7_code
def yX7_failedLong : MethodName := ⟨RX7, "failedLong", "(I)J"⟩
abbrev cX7_noInn : ByteArray := prog_9_method_8_code
def yX7_noInn : MethodName := ⟨RX7, "noInn", "(I)Z"⟩
abbrev cX7_noGuest : ByteArray := prog_9_method_9_code
def yX7_noGuest : MethodName := ⟨RX7, "noGuest", "(I)Z"⟩
abbrev cX7_noNight : ByteArray := prog_9_method_10_code
def yX7_noNight : MethodName := ⟨RX7, "noNight", "(I)Z"⟩
abbrev cX7_codeAt : ByteArray := prog_9_method_11_code
def yX7_codeAt : MethodName := ⟨RX7, "codeAt", "(II)I"⟩
abbrev cX7_figure : ByteArray := prog_9_method_12_code
def yX7_figure : MethodName := ⟨RX7, "figure", "(IIII)I"⟩
abbrev cX7_readsInn : ByteArray := prog_9_method_13_code
def yX7_readsInn : MethodName := ⟨RX7, "readsInn", "(II)Z"⟩
abbrev cX7_readsNight : ByteArray := prog_9_method_14_code
def yX7_readsNight : MethodName := ⟨RX7, "readsNight", "(II)Z"⟩
abbrev cX7_readsGuest : ByteArray := prog_9_method_15_code
def yX7_readsGuest : MethodName := ⟨RX7, "readsGuest", "(II)Z"⟩
abbrev cX7_readsRidge : ByteArray := prog_9_method_16_code
def yX7_readsRidge : MethodName := ⟨RX7, "readsRidge", "(II)Z"⟩
abbrev cX7_cellsBarred : ByteArray := prog_9_method_17_code
def yX7_cellsBarred : MethodName := ⟨RX7, "cellsBarred", "(IIIJ)I"⟩
abbrev cX7_ridge : ByteArray := prog_9_method_18_code
def yX7_ridge : MethodName := ⟨RX7, "ridge", "(IIII)I"⟩
abbrev cX7_keepsBy : ByteArray := prog_9_method_19_code
def yX7_keepsBy : MethodName := ⟨RX7, "keepsBy", "(II)I"⟩
abbrev cX7_ofInn : ByteArray := prog_9_method_20_code
def yX7_ofInn : MethodName := ⟨RX7, "ofInn", "(II)I"⟩
abbrev cX7_ofGuest : ByteArray := prog_9_method_21_code
def yX7_ofGuest : MethodName := ⟨RX7, "ofGuest", "(II)I"⟩
abbrev cX7_ofNight : ByteArray := prog_9_method_22_code
def yX7_ofNight : MethodName := ⟨RX7, "ofNight", "(II)I"⟩
abbrev cX7_rule : ByteArray := prog_9_method_23_code
def yX7_rule : MethodName := ⟨RX7, "rule", "(I)I"⟩
abbrev cX7_fall : ByteArray := prog_9_method_24_code
def yX7_fall : MethodName := ⟨RX7, "fall", "(II)I"⟩
abbrev cX7_gust : ByteArray := prog_9_method_25_code
def yX7_gust : MethodName := ⟨RX7, "gust", "(IZ)I"⟩
abbrev cX7_lodge : ByteArray := prog_9_method_26_code
def yX7_lodge : MethodName := ⟨RX7, "lodge", "(II)I"⟩
abbrev cX7_swept : ByteArray := prog_9_method_27_code
def yX7_swept : MethodName := ⟨RX7, "swept", "(III)I"⟩
abbrev cX7_sweep : ByteArray := prog_9_method_28_code
def yX7_sweep : MethodName := ⟨RX7, "sweep", "(IZI)I"⟩
abbrev cX7_begin : ByteArray := prog_9_method_29_code
def yX7_begin : MethodName := ⟨RX7, "begin", "()V"⟩
abbrev cX7_passOn : ByteArray := prog_9_method_30_code
def yX7_passOn : MethodName := ⟨RX7, "passOn", "(II)V"⟩
abbrev cX7_goNight : ByteArray := prog_9_method_31_code
def yX7_goNight : MethodName := ⟨RX7, "goNight", "(I)V"⟩
abbrev cX7_goNights : ByteArray := prog_9_method_32_code
def yX7_goNights : MethodName := ⟨RX7, "goNights", "(I)V"⟩
abbrev cX7_inBeds : ByteArray := prog_9_method_33_code
def yX7_inBeds : MethodName := ⟨RX7, "inBeds", "(I)I"⟩
abbrev cX7_where : ByteArray := prog_9_method_34_code
def yX7_where : MethodName := ⟨RX7, "where", "(II)I"⟩
abbrev cX7_deep : ByteArray := prog_9_method_35_code
def yX7_deep : MethodName := ⟨RX7, "deep", "(II)I"⟩
abbrev cX7_beds : ByteArray := prog_9_method_36_code
def yX7_beds : MethodName := ⟨RX7, "beds", "(II)I"⟩
abbrev cX7_list : ByteArray := prog_9_method_37_code
def yX7_list : MethodName := ⟨RX7, "list", "(IIIII)I"⟩
abbrev cX7_noFamily : ByteArray := prog_9_method_38_code
def yX7_noFamily : MethodName := ⟨RX7, "noFamily", "(I)Z"⟩
abbrev cX7_isTogether : ByteArray := prog_9_method_39_code
def yX7_isTogether : MethodName := ⟨RX7, "isTogether", "(I)Z"⟩
abbrev cX7_meetsIn : ByteArray := prog_9_method_40_code
def yX7_meetsIn : MethodName := ⟨RX7, "meetsIn", "(II)I"⟩
abbrev cX7_meet : ByteArray := prog_9_method_41_code
def yX7_meet : MethodName := ⟨RX7, "meet", "(I)I"⟩
abbrev cX7_isNobodyOut : ByteArray := prog_9_method_42_code
def yX7_isNobodyOut : MethodName := ⟨RX7, "isNobodyOut", "(I)Z"⟩
abbrev cX7_isBy : ByteArray := prog_9_method_43_code
def yX7_isBy : MethodName := ⟨RX7, "isBy", "(IIII)Z"⟩
abbrev cX7_least : ByteArray := prog_9_method_44_code
def yX7_least : MethodName := ⟨RX7, "least", "(II)I"⟩
abbrev cX7_turn : ByteArray := prog_9_method_45_code
def yX7_turn : MethodName := ⟨RX7, "turn", "(II)I"⟩
abbrev cX7_bits : ByteArray := prog_9_method_46_code
def yX7_bits : MethodName := ⟨RX7, "bits", "(I)I"⟩
abbrev cX7_corks : ByteArray := prog_9_method_47_code
def yX7_corks : MethodName := ⟨RX7, "corks", "(I)I"⟩
abbrev cX7_reading : ByteArray := prog_9_method_48_code
def yX7_reading : MethodName := ⟨RX7, "reading", "(III)I"⟩
abbrev cX7_back : ByteArray := prog_9_method_49_code
def yX7_back : MethodName := ⟨RX7, "back", "(I)I"⟩
abbrev cX7_areSo : ByteArray := prog_9_method_50_code
def yX7_areSo : MethodName := ⟨RX7, "areSo", "()Z"⟩
abbrev cX7_rules : ByteArray := prog_9_method_51_code
def yX7_rules : MethodName := ⟨RX7, "rules", "()I"⟩
abbrev cX7_kinds : ByteArray := prog_9_method_52_code
def yX7_kinds : MethodName := ⟨RX7, "kinds", "(I)I"⟩
abbrev cX7_depths : ByteArray := prog_9_method_53_code
def yX7_depths : MethodName := ⟨RX7, "depths", "(I)I"⟩
abbrev cX7_falls : ByteArray := prog_9_method_54_code
def yX7_falls : MethodName := ⟨RX7, "falls", "(I)I"⟩
abbrev cX7_blow : ByteArray := prog_9_method_55_code
def yX7_blow : MethodName := ⟨RX7, "blow", "(II)V"⟩
abbrev cX7_odds : ByteArray := prog_9_method_56_code
def yX7_odds : MethodName := ⟨RX7, "odds", "(III)J"⟩
abbrev cX7_noSheet : ByteArray := prog_9_method_57_code
def yX7_noSheet : MethodName := ⟨RX7, "noSheet", "(I)Z"⟩
abbrev cX7_sheet : ByteArray := prog_9_method_58_code
def yX7_sheet : MethodName := ⟨RX7, "sheet", "(III)I"⟩
abbrev cX7_lose : ByteArray := prog_9_method_59_code
def yX7_lose : MethodName := ⟨RX7, "lose", "(I)I"⟩
abbrev cX7_noCell : ByteArray := prog_9_method_60_code
def yX7_noCell : MethodName := ⟨RX7, "noCell", "(II)I"⟩
abbrev cX7_put : ByteArray := prog_9_method_61_code
def yX7_put : MethodName := ⟨RX7, "put", "(III)I"⟩
abbrev cX7_cell : ByteArray := prog_9_method_62_code
def yX7_cell : MethodName := ⟨RX7, "cell", "(III)J"⟩
abbrev cX7_isBeyond : ByteArray := prog_9_method_63_code
def yX7_isBeyond : MethodName := ⟨RX7, "isBeyond", "(IJI)Z"⟩
abbrev cX7_copy : ByteArray := prog_9_method_64_code
def yX7_copy : MethodName := ⟨RX7, "copy", "(IIIII)I"⟩
abbrev cX7_traced : ByteArray := prog_9_method_65_code
def yX7_traced : MethodName := ⟨RX7, "traced", "(I)V"⟩
abbrev cX7_tell : ByteArray := prog_9_method_66_code
def yX7_tell : MethodName := ⟨RX7, "tell", "(I)I"⟩
abbrev cX7_light : ByteArray := prog_9_method_67_code
def yX7_light : MethodName := ⟨RX7, "light", "(I)I"⟩
abbrev cX7_as : ByteArray := prog_9_method_68_code
def yX7_as : MethodName := ⟨RX7, "as", "(II)I"⟩
abbrev cX7_trace : ByteArray := prog_9_method_69_code
def yX7_trace : MethodName := ⟨RX7, "trace", "()I"⟩
abbrev cX7_fault : ByteArray := prog_9_method_70_code
def yX7_fault : MethodName := ⟨RX7, "fault", "()I"⟩
abbrev cX7_many : ByteArray := prog_9_method_71_code
def yX7_many : MethodName := ⟨RX7, "many", "(I)I"⟩
def RJ6 : String := "java/lang/Integer"
def TJ6 : u_T := fun k => match k with
  | _ => ("", "", "", false)
def tyJ6 : Nat → FieldType := fun k => match k with
  | _ => .int
abbrev cJ6_bitCount_0f7a4 : ByteArray := prog_10_method_49_code
def yJ6_bitCount_0f7a4 : MethodName := ⟨RJ6, "bitCount", "(I)I"⟩
def RJ9 : String := "java/lang/Math"
def TJ9 : u_T := fun k => match k with
  | _ => ("", "", "", false)
def tyJ9 : Nat → FieldType := fun k => match k with
  | _ => .int
abbrev cJ9_max_7cf53 : ByteArray := prog_11_method_65_code
def yJ9_max_7cf53 : MethodName := ⟨RJ9, "max", "(II)I"⟩
abbrev cJ9_min_7cf53 : ByteArray := prog_11_method_69_code
def yJ9_min_7cf53 : MethodName := ⟨RJ9, "min", "(II)I"⟩
def RJ10 : String := "java/lang/System"
def TJ10 : u_T := fun k => match k with
  | _ => ("", "", "", false)
def tyJ10 : Nat → FieldType := fun k => match k with
  | _ => .int
def RL : String := "SnowInnsLaw"
abbrev cL_law : ByteArray := code
def yL_law : MethodName := ⟨RL, "law", "([I)Z"⟩
abbrev vwCl : List vw_C := [(RX0, TX0, 4), (RX1, TX1, 4), (RX2, TX2, 11), (RX3, TX3, 3), (RX4, TX4, 4), (RX5, TX5, 4), (RX6, TX6, 8), (RX7, TX7, 34)]
end
section
theorem dX0_init_0 : decode cX0_init 0 = .ok (.aload_n 0, 1) := by decide +kernel
theorem dX0_init_1 : decode cX0_init 1 = .ok (.invokespecial 3, 3) := by decide +kernel
theorem dX0_init_4 : decode cX0_init 4 = .ok (.aload_n 0, 1) := by decide +kernel
theorem dX0_init_5 : decode cX0_init 5 = .ok (.bipush 9, 2) := by decide +kernel
theorem dX0_init_7 : decode cX0_init 7 = .ok (.bipush 6, 2) := by decide +kernel
theorem dX0_init_9 : decode cX0_init 9 = .ok (.multianewarray 9 2, 4) := by decide +kernel
theorem dX0_init_13 : decode cX0_init 13 = .ok (.putfield 11, 3) := by decide +kernel
theorem dX0_init_16 : decode cX0_init 16 = .ok (.aload_n 0, 1) := by decide +kernel
theorem dX0_init_17 : decode cX0_init 17 = .ok (.bipush 9, 2) := by decide +kernel
theorem dX0_init_19 : decode cX0_init 19 = .ok (.bipush 7, 2) := by decide +kernel
theorem dX0_init_21 : decode cX0_init 21 = .ok (.multianewarray 9 2, 4) := by decide +kernel
theorem dX0_init_25 : decode cX0_init 25 = .ok (.putfield 16, 3) := by decide +kernel
theorem dX0_init_28 : decode cX0_init 28 = .ok (.aload_n 0, 1) := by decide +kernel
theorem dX0_init_29 : decode cX0_init 29 = .ok (.bipush 9, 2) := by decide +kernel
theorem dX0_init_31 : decode cX0_init 31 = .ok (.newarray .int, 2) := by decide +kernel
theorem dX0_init_33 : decode cX0_init 33 = .ok (.putfield 19, 3) := by decide +kernel
theorem dX0_init_36 : decode cX0_init 36 = .ok (.aload_n 0, 1) := by decide +kernel
theorem dX0_init_37 : decode cX0_init 37 = .ok (.aload_n 1, 1) := by decide +kernel
theorem dX0_init_38 : decode cX0_init 38 = .ok (.putfield 23, 3) := by decide +kernel
theorem dX0_init_41 : decode cX0_init 41 = .ok (.return_, 1) := by decide +kernel
theorem dX0_run_0 : decode cX0_run 0 = .ok (.aload_n 0, 1) := by decide +kernel
theorem dX0_run_1 : decode cX0_run 1 = .ok (.invokevirtual 27, 3) := by decide +kernel
theorem dX0_run_4 : decode cX0_run 4 = .ok (.iconst 0, 1) := by decide +kernel
theorem dX0_run_5 : decode cX0_run 5 = .ok (.istore_n 2, 1) := by decide +kernel
theorem dX0_run_6 : decode cX0_run 6 = .ok (.iload_n 2, 1) := by decide +kernel
theorem dX0_run_7 : decode cX0_run 7 = .ok (.iload_n 1, 1) := by decide +kernel
theorem dX0_run_8 : decode cX0_run 8 = .ok (.if_icmp .ge 23, 3) := by decide +kernel
theorem dX0_run_11 : decode cX0_run 11 = .ok (.aload_n 0, 1) := by decide +kernel
theorem dX0_run_12 : decode cX0_run 12 = .ok (.iload_n 2, 1) := by decide +kernel
theorem dX0_run_13 : decode cX0_run 13 = .ok (.aload_n 0, 1) := by decide +kernel
theorem dX0_run_14 : decode cX0_run 14 = .ok (.getfield 23, 3) := by decide +kernel
theorem dX0_run_17 : decode cX0_run 17 = .ok (.getfield 30, 3) := by decide +kernel
theorem dX0_run_20 : decode cX0_run 20 = .ok (.iload_n 2, 1) := by decide +kernel
theorem dX0_run_21 : decode cX0_run 21 = .ok (.iaload, 1) := by decide +kernel
theorem dX0_run_22 : decode cX0_run 22 = .ok (.invokevirtual 35, 3) := by decide +kernel
theorem dX0_run_25 : decode cX0_run 25 = .ok (.iinc 2 1, 3) := by decide +kernel
theorem dX0_run_28 : decode cX0_run 28 = .ok (.goto (-22), 3) := by decide +kernel
theorem dX0_run_31 : decode cX0_run 31 = .ok (.return_, 1) := by decide +kernel
theorem dX0_begin_0 : decode cX0_begin 0 = .ok (.aload_n 0, 1) := by decide +kernel
theorem dX0_begin_1 : decode cX0_begin 1 = .ok (.getfield 19, 3) := by decide +kernel
theorem dX0_begin_4 : decode cX0_begin 4 = .ok (.iconst 0, 1) := by decide +kernel
theorem dX0_begin_5 : decode cX0_begin 5 = .ok (.iconst 0, 1) := by decide +kernel
theorem dX0_begin_6 : decode cX0_begin 6 = .ok (.iastore, 1) := by decide +kernel
theorem dX0_begin_7 : decode cX0_begin 7 = .ok (.iconst 0, 1) := by decide +kernel
theorem dX0_begin_8 : decode cX0_begin 8 = .ok (.istore_n 1, 1) := by decide +kernel
theorem dX0_begin_9 : decode cX0_begin 9 = .ok (.iload_n 1, 1) := by decide +kernel
theorem dX0_begin_10 : decode cX0_begin 10 = .ok (.aload_n 0, 1) := by decide +kernel
theorem dX0_begin_11 : decode cX0_begin 11 = .ok (.getfield 23, 3) := by decide +kernel
theorem dX0_begin_14 : decode cX0_begin 14 = .ok (.getfield 39, 3) := by decide +kernel
theorem dX0_begin_17 : decode cX0_begin 17 = .ok (.if_icmp .ge 26, 3) := by decide +kernel
theorem dX0_begin_20 : decode cX0_begin 20 = .ok (.aload_n 0, 1) := by decide +kernel
theorem dX0_begin_21 : decode cX0_begin 21 = .ok (.getfield 11, 3) := by decide +kernel
theorem dX0_begin_24 : decode cX0_begin 24 = .ok (.iconst 0, 1) := by decide +kernel
theorem dX0_begin_25 : decode cX0_begin 25 = .ok (.aaload, 1) := by decide +kernel
theorem dX0_begin_26 : decode cX0_begin 26 = .ok (.iload_n 1, 1) := by decide +kernel
theorem dX0_begin_27 : decode cX0_begin 27 = .ok (.aload_n 0, 1) := by decide +kernel
theorem dX0_begin_28 : decode cX0_begin 28 = .ok (.getfield 23, 3) := by decide +kernel
theorem dX0_begin_31 : decode cX0_begin 31 = .ok (.getfield 43, 3) := by decide +kernel
theorem dX0_begin_34 : decode cX0_begin 34 = .ok (.iload_n 1, 1) := by decide +kernel
theorem dX0_begin_35 : decode cX0_begin 35 = .ok (.iaload, 1) := by decide +kernel
theorem dX0_begin_36 : decode cX0_begin 36 = .ok (.iastore, 1) := by decide +kernel
theorem dX0_begin_37 : decode cX0_begin 37 = .ok (.iinc 1 1, 3) := by decide +kernel
theorem dX0_begin_40 : decode cX0_begin 40 = .ok (.goto (-31), 3) := by decide +kernel
theorem dX0_begin_43 : decode cX0_begin 43 = .ok (.iconst 0, 1) := by decide +kernel
theorem dX0_begin_44 : decode cX0_begin 44 = .ok (.istore_n 1, 1) := by decide +kernel
theorem dX0_begin_45 : decode cX0_begin 45 = .ok (.iload_n 1, 1) := by decide +kernel
theorem dX0_begin_46 : decode cX0_begin 46 = .ok (.aload_n 0, 1) := by decide +kernel
theorem dX0_begin_47 : decode cX0_begin 47 = .ok (.getfield 23, 3) := by decide +kernel
theorem dX0_begin_50 : decode cX0_begin 50 = .ok (.getfield 39, 3) := by decide +kernel
theorem dX0_begin_53 : decode cX0_begin 53 = .ok (.if_icmp .gt 18, 3) := by decide +kernel
theorem dX0_begin_56 : decode cX0_begin 56 = .ok (.aload_n 0, 1) := by decide +kernel
theorem dX0_begin_57 : decode cX0_begin 57 = .ok (.getfield 16, 3) := by decide +kernel
theorem dX0_begin_60 : decode cX0_begin 60 = .ok (.iconst 0, 1) := by decide +kernel
theorem dX0_begin_61 : decode cX0_begin 61 = .ok (.aaload, 1) := by decide +kernel
theorem dX0_begin_62 : decode cX0_begin 62 = .ok (.iload_n 1, 1) := by decide +kernel
theorem dX0_begin_63 : decode cX0_begin 63 = .ok (.iconst 0, 1) := by decide +kernel
theorem dX0_begin_64 : decode cX0_begin 64 = .ok (.iastore, 1) := by decide +kernel
theorem dX0_begin_65 : decode cX0_begin 65 = .ok (.iinc 1 1, 3) := by decide +kernel
theorem dX0_begin_68 : decode cX0_begin 68 = .ok (.goto (-23), 3) := by decide +kernel
theorem dX0_begin_71 : decode cX0_begin 71 = .ok (.iconst 0, 1) := by decide +kernel
theorem dX0_begin_72 : decode cX0_begin 72 = .ok (.istore_n 1, 1) := by decide +kernel
theorem dX0_begin_73 : decode cX0_begin 73 = .ok (.iload_n 1, 1) := by decide +kernel
theorem dX0_begin_74 : decode cX0_begin 74 = .ok (.aload_n 0, 1) := by decide +kernel
theorem dX0_begin_75 : decode cX0_begin 75 = .ok (.getfield 23, 3) := by decide +kernel
theorem dX0_begin_78 : decode cX0_begin 78 = .ok (.getfield 45, 3) := by decide +kernel
theorem dX0_begin_81 : decode cX0_begin 81 = .ok (.if_icmp .ge 31, 3) := by decide +kernel
theorem dX0_begin_84 : decode cX0_begin 84 = .ok (.aload_n 0, 1) := by decide +kernel
theorem dX0_begin_85 : decode cX0_begin 85 = .ok (.getfield 16, 3) := by decide +kernel
theorem dX0_begin_88 : decode cX0_begin 88 = .ok (.iconst 0, 1) := by decide +kernel
theorem dX0_begin_89 : decode cX0_begin 89 = .ok (.aaload, 1) := by decide +kernel
theorem dX0_begin_90 : decode cX0_begin 90 = .ok (.aload_n 0, 1) := by decide +kernel
theorem dX0_begin_91 : decode cX0_begin 91 = .ok (.getfield 23, 3) := by decide +kernel
theorem dX0_begin_94 : decode cX0_begin 94 = .ok (.getfield 47, 3) := by decide +kernel
theorem dX0_begin_97 : decode cX0_begin 97 = .ok (.iload_n 1, 1) := by decide +kernel
theorem dX0_begin_98 : decode cX0_begin 98 = .ok (.iaload, 1) := by decide +kernel
theorem dX0_begin_99 : decode cX0_begin 99 = .ok (.dup2, 1) := by decide +kernel
theorem dX0_begin_100 : decode cX0_begin 100 = .ok (.iaload, 1) := by decide +kernel
theorem dX0_begin_101 : decode cX0_begin 101 = .ok (.iconst 1, 1) := by decide +kernel
theorem dX0_begin_102 : decode cX0_begin 102 = .ok (.iload_n 1, 1) := by decide +kernel
theorem dX0_begin_103 : decode cX0_begin 103 = .ok (.ishl, 1) := by decide +kernel
theorem dX0_begin_104 : decode cX0_begin 104 = .ok (.ior, 1) := by decide +kernel
theorem dX0_begin_105 : decode cX0_begin 105 = .ok (.iastore, 1) := by decide +kernel
theorem dX0_begin_106 : decode cX0_begin 106 = .ok (.iinc 1 1, 3) := by decide +kernel
theorem dX0_begin_109 : decode cX0_begin 109 = .ok (.goto (-36), 3) := by decide +kernel
theorem dX0_begin_112 : decode cX0_begin 112 = .ok (.return_, 1) := by decide +kernel
theorem dX0_pass_0 : decode cX0_pass 0 = .ok (.aload_n 0, 1) := by decide +kernel
theorem dX0_pass_1 : decode cX0_pass 1 = .ok (.iload_n 1, 1) := by decide +kernel
theorem dX0_pass_2 : decode cX0_pass 2 = .ok (.invokevirtual 50, 3) := by decide +kernel
theorem dX0_pass_5 : decode cX0_pass 5 = .ok (.aload_n 0, 1) := by decide +kernel
theorem dX0_pass_6 : decode cX0_pass 6 = .ok (.getfield 23, 3) := by decide +kernel
theorem dX0_pass_9 : decode cX0_pass 9 = .ok (.getfield 39, 3) := by decide +kernel
theorem dX0_pass_12 : decode cX0_pass 12 = .ok (.istore_n 3, 1) := by decide +kernel
theorem dX0_pass_13 : decode cX0_pass 13 = .ok (.aload_n 0, 1) := by decide +kernel
theorem dX0_pass_14 : decode cX0_pass 14 = .ok (.getfield 16, 3) := by decide +kernel
theorem dX0_pass_17 : decode cX0_pass 17 = .ok (.iload_n 1, 1) := by decide +kernel
theorem dX0_pass_18 : decode cX0_pass 18 = .ok (.aaload, 1) := by decide +kernel
theorem dX0_pass_19 : decode cX0_pass 19 = .ok (.astore 4, 2) := by decide +kernel
theorem dX0_pass_21 : decode cX0_pass 21 = .ok (.aload_n 0, 1) := by decide +kernel
theorem dX0_pass_22 : decode cX0_pass 22 = .ok (.getfield 16, 3) := by decide +kernel
theorem dX0_pass_25 : decode cX0_pass 25 = .ok (.iload_n 1, 1) := by decide +kernel
theorem dX0_pass_26 : decode cX0_pass 26 = .ok (.iconst 1, 1) := by decide +kernel
theorem dX0_pass_27 : decode cX0_pass 27 = .ok (.iadd, 1) := by decide +kernel
theorem dX0_pass_28 : decode cX0_pass 28 = .ok (.aaload, 1) := by decide +kernel
theorem dX0_pass_29 : decode cX0_pass 29 = .ok (.astore 5, 2) := by decide +kernel
theorem dX0_pass_31 : decode cX0_pass 31 = .ok (.iconst 0, 1) := by decide +kernel
theorem dX0_pass_32 : decode cX0_pass 32 = .ok (.istore 6, 2) := by decide +kernel
theorem dX0_pass_34 : decode cX0_pass 34 = .ok (.iconst 0, 1) := by decide +kernel
theorem dX0_pass_35 : decode cX0_pass 35 = .ok (.istore 7, 2) := by decide +kernel
theorem dX0_pass_37 : decode cX0_pass 37 = .ok (.iload 7, 2) := by decide +kernel
theorem dX0_pass_39 : decode cX0_pass 39 = .ok (.iload_n 3, 1) := by decide +kernel
theorem dX0_pass_40 : decode cX0_pass 40 = .ok (.if_icmp .ge 99, 3) := by decide +kernel
theorem dX0_pass_43 : decode cX0_pass 43 = .ok (.iload_n 2, 1) := by decide +kernel
theorem dX0_pass_44 : decode cX0_pass 44 = .ok (.ifCond .ne 8, 3) := by decide +kernel
theorem dX0_pass_47 : decode cX0_pass 47 = .ok (.iload 7, 2) := by decide +kernel
theorem dX0_pass_49 : decode cX0_pass 49 = .ok (.goto 9, 3) := by decide +kernel
theorem dX0_pass_52 : decode cX0_pass 52 = .ok (.iload_n 3, 1) := by decide +kernel
theorem dX0_pass_53 : decode cX0_pass 53 = .ok (.iconst 1, 1) := by decide +kernel
theorem dX0_pass_54 : decode cX0_pass 54 = .ok (.isub, 1) := by decide +kernel
theorem dX0_pass_55 : decode cX0_pass 55 = .ok (.iload 7, 2) := by decide +kernel
theorem dX0_pass_57 : decode cX0_pass 57 = .ok (.isub, 1) := by decide +kernel
theorem dX0_pass_58 : decode cX0_pass 58 = .ok (.istore 8, 2) := by decide +kernel
theorem dX0_pass_60 : decode cX0_pass 60 = .ok (.aload 4, 2) := by decide +kernel
theorem dX0_pass_62 : decode cX0_pass 62 = .ok (.iload 8, 2) := by decide +kernel
theorem dX0_pass_64 : decode cX0_pass 64 = .ok (.iaload, 1) := by decide +kernel
theorem dX0_pass_65 : decode cX0_pass 65 = .ok (.iload 6, 2) := by decide +kernel
theorem dX0_pass_67 : decode cX0_pass 67 = .ok (.ior, 1) := by decide +kernel
theorem dX0_pass_68 : decode cX0_pass 68 = .ok (.istore 9, 2) := by decide +kernel
theorem dX0_pass_70 : decode cX0_pass 70 = .ok (.iload 8, 2) := by decide +kernel
theorem dX0_pass_72 : decode cX0_pass 72 = .ok (.aload_n 0, 1) := by decide +kernel
theorem dX0_pass_73 : decode cX0_pass 73 = .ok (.getfield 19, 3) := by decide +kernel
theorem dX0_pass_76 : decode cX0_pass 76 = .ok (.iload_n 1, 1) := by decide +kernel
theorem dX0_pass_77 : decode cX0_pass 77 = .ok (.iaload, 1) := by decide +kernel
theorem dX0_pass_78 : decode cX0_pass 78 = .ok (.if_icmp .ne 12, 3) := by decide +kernel
theorem dX0_pass_81 : decode cX0_pass 81 = .ok (.iload 9, 2) := by decide +kernel
theorem dX0_pass_83 : decode cX0_pass 83 = .ok (.aload 4, 2) := by decide +kernel
theorem dX0_pass_85 : decode cX0_pass 85 = .ok (.iload_n 3, 1) := by decide +kernel
theorem dX0_pass_86 : decode cX0_pass 86 = .ok (.iaload, 1) := by decide +kernel
theorem dX0_pass_87 : decode cX0_pass 87 = .ok (.ior, 1) := by decide +kernel
theorem dX0_pass_88 : decode cX0_pass 88 = .ok (.istore 9, 2) := by decide +kernel
theorem dX0_pass_90 : decode cX0_pass 90 = .ok (.aload 5, 2) := by decide +kernel
theorem dX0_pass_92 : decode cX0_pass 92 = .ok (.iload 8, 2) := by decide +kernel
theorem dX0_pass_94 : decode cX0_pass 94 = .ok (.aload_n 0, 1) := by decide +kernel
theorem dX0_pass_95 : decode cX0_pass 95 = .ok (.iload 9, 2) := by decide +kernel
theorem dX0_pass_97 : decode cX0_pass 97 = .ok (.aload_n 0, 1) := by decide +kernel
theorem dX0_pass_98 : decode cX0_pass 98 = .ok (.getfield 23, 3) := by decide +kernel
theorem dX0_pass_101 : decode cX0_pass 101 = .ok (.iload 8, 2) := by decide +kernel
theorem dX0_pass_103 : decode cX0_pass 103 = .ok (.aload_n 0, 1) := by decide +kernel
theorem dX0_pass_104 : decode cX0_pass 104 = .ok (.getfield 11, 3) := by decide +kernel
theorem dX0_pass_107 : decode cX0_pass 107 = .ok (.iload_n 1, 1) := by decide +kernel
theorem dX0_pass_108 : decode cX0_pass 108 = .ok (.iconst 1, 1) := by decide +kernel
theorem dX0_pass_109 : decode cX0_pass 109 = .ok (.iadd, 1) := by decide +kernel
theorem dX0_pass_110 : decode cX0_pass 110 = .ok (.aaload, 1) := by decide +kernel
theorem dX0_pass_111 : decode cX0_pass 111 = .ok (.iload 8, 2) := by decide +kernel
theorem dX0_pass_113 : decode cX0_pass 113 = .ok (.iaload, 1) := by decide +kernel
theorem dX0_pass_114 : decode cX0_pass 114 = .ok (.invokevirtual 54, 3) := by decide +kernel
theorem dX0_pass_117 : decode cX0_pass 117 = .ok (.invokevirtual 58, 3) := by decide +kernel
theorem dX0_pass_120 : decode cX0_pass 120 = .ok (.iastore, 1) := by decide +kernel
theorem dX0_pass_121 : decode cX0_pass 121 = .ok (.iload 9, 2) := by decide +kernel
theorem dX0_pass_123 : decode cX0_pass 123 = .ok (.aload 5, 2) := by decide +kernel
theorem dX0_pass_125 : decode cX0_pass 125 = .ok (.iload 8, 2) := by decide +kernel
theorem dX0_pass_127 : decode cX0_pass 127 = .ok (.iaload, 1) := by decide +kernel
theorem dX0_pass_128 : decode cX0_pass 128 = .ok (.iconst (-1), 1) := by decide +kernel
theorem dX0_pass_129 : decode cX0_pass 129 = .ok (.ixor, 1) := by decide +kernel
theorem dX0_pass_130 : decode cX0_pass 130 = .ok (.iand, 1) := by decide +kernel
theorem dX0_pass_131 : decode cX0_pass 131 = .ok (.istore 6, 2) := by decide +kernel
theorem dX0_pass_133 : decode cX0_pass 133 = .ok (.iinc 7 1, 3) := by decide +kernel
theorem dX0_pass_136 : decode cX0_pass 136 = .ok (.goto (-99), 3) := by decide +kernel
theorem dX0_pass_139 : decode cX0_pass 139 = .ok (.aload 5, 2) := by decide +kernel
theorem dX0_pass_141 : decode cX0_pass 141 = .ok (.iload_n 3, 1) := by decide +kernel
theorem dX0_pass_142 : decode cX0_pass 142 = .ok (.iload 6, 2) := by decide +kernel
theorem dX0_pass_144 : decode cX0_pass 144 = .ok (.iastore, 1) := by decide +kernel
theorem dX0_pass_145 : decode cX0_pass 145 = .ok (.aload_n 0, 1) := by decide +kernel
theorem dX0_pass_146 : decode cX0_pass 146 = .ok (.getfield 19, 3) := by decide +kernel
theorem dX0_pass_149 : decode cX0_pass 149 = .ok (.iload_n 1, 1) := by decide +kernel
theorem dX0_pass_150 : decode cX0_pass 150 = .ok (.iconst 1, 1) := by decide +kernel
theorem dX0_pass_151 : decode cX0_pass 151 = .ok (.iadd, 1) := by decide +kernel
theorem dX0_pass_152 : decode cX0_pass 152 = .ok (.iload_n 2, 1) := by decide +kernel
theorem dX0_pass_153 : decode cX0_pass 153 = .ok (.ifCond .ne 9, 3) := by decide +kernel
theorem dX0_pass_156 : decode cX0_pass 156 = .ok (.iload_n 3, 1) := by decide +kernel
theorem dX0_pass_157 : decode cX0_pass 157 = .ok (.iconst 1, 1) := by decide +kernel
theorem dX0_pass_158 : decode cX0_pass 158 = .ok (.isub, 1) := by decide +kernel
theorem dX0_pass_159 : decode cX0_pass 159 = .ok (.goto 4, 3) := by decide +kernel
theorem dX0_pass_162 : decode cX0_pass 162 = .ok (.iconst 0, 1) := by decide +kernel
theorem dX0_pass_163 : decode cX0_pass 163 = .ok (.iastore, 1) := by decide +kernel
theorem dX0_pass_164 : decode cX0_pass 164 = .ok (.return_, 1) := by decide +kernel
theorem dX0_snow_0 : decode cX0_snow 0 = .ok (.aload_n 0, 1) := by decide +kernel
theorem dX0_snow_1 : decode cX0_snow 1 = .ok (.getfield 23, 3) := by decide +kernel
theorem dX0_snow_4 : decode cX0_snow 4 = .ok (.getfield 61, 3) := by decide +kernel
theorem dX0_snow_7 : decode cX0_snow 7 = .ok (.iload_n 1, 1) := by decide +kernel
theorem dX0_snow_8 : decode cX0_snow 8 = .ok (.iaload, 1) := by decide +kernel
theorem dX0_snow_9 : decode cX0_snow 9 = .ok (.iconst 2, 1) := by decide +kernel
theorem dX0_snow_10 : decode cX0_snow 10 = .ok (.isub, 1) := by decide +kernel
theorem dX0_snow_11 : decode cX0_snow 11 = .ok (.istore_n 2, 1) := by decide +kernel
theorem dX0_snow_12 : decode cX0_snow 12 = .ok (.iconst 0, 1) := by decide +kernel
theorem dX0_snow_13 : decode cX0_snow 13 = .ok (.istore_n 3, 1) := by decide +kernel
theorem dX0_snow_14 : decode cX0_snow 14 = .ok (.iload_n 3, 1) := by decide +kernel
theorem dX0_snow_15 : decode cX0_snow 15 = .ok (.aload_n 0, 1) := by decide +kernel
theorem dX0_snow_16 : decode cX0_snow 16 = .ok (.getfield 23, 3) := by decide +kernel
theorem dX0_snow_19 : decode cX0_snow 19 = .ok (.getfield 39, 3) := by decide +kernel
theorem dX0_snow_22 : decode cX0_snow 22 = .ok (.if_icmp .ge 42, 3) := by decide +kernel
theorem dX0_snow_25 : decode cX0_snow 25 = .ok (.aload_n 0, 1) := by decide +kernel
theorem dX0_snow_26 : decode cX0_snow 26 = .ok (.getfield 11, 3) := by decide +kernel
theorem dX0_snow_29 : decode cX0_snow 29 = .ok (.iload_n 1, 1) := by decide +kernel
theorem dX0_snow_30 : decode cX0_snow 30 = .ok (.aaload, 1) := by decide +kernel
theorem dX0_snow_31 : decode cX0_snow 31 = .ok (.iload_n 3, 1) := by decide +kernel
theorem dX0_snow_32 : decode cX0_snow 32 = .ok (.iaload, 1) := by decide +kernel
theorem dX0_snow_33 : decode cX0_snow 33 = .ok (.iload_n 2, 1) := by decide +kernel
theorem dX0_snow_34 : decode cX0_snow 34 = .ok (.iadd, 1) := by decide +kernel
theorem dX0_snow_35 : decode cX0_snow 35 = .ok (.istore 4, 2) := by decide +kernel
theorem dX0_snow_37 : decode cX0_snow 37 = .ok (.aload_n 0, 1) := by decide +kernel
theorem dX0_snow_38 : decode cX0_snow 38 = .ok (.getfield 11, 3) := by decide +kernel
theorem dX0_snow_41 : decode cX0_snow 41 = .ok (.iload_n 1, 1) := by decide +kernel
theorem dX0_snow_42 : decode cX0_snow 42 = .ok (.iconst 1, 1) := by decide +kernel
theorem dX0_snow_43 : decode cX0_snow 43 = .ok (.iadd, 1) := by decide +kernel
theorem dX0_snow_44 : decode cX0_snow 44 = .ok (.aaload, 1) := by decide +kernel
theorem dX0_snow_45 : decode cX0_snow 45 = .ok (.iload_n 3, 1) := by decide +kernel
theorem dX0_snow_46 : decode cX0_snow 46 = .ok (.iconst 0, 1) := by decide +kernel
theorem dX0_snow_47 : decode cX0_snow 47 = .ok (.bipush 9, 2) := by decide +kernel
theorem dX0_snow_49 : decode cX0_snow 49 = .ok (.iload 4, 2) := by decide +kernel
theorem dX0_snow_51 : decode cX0_snow 51 = .ok (.invokestatic 64, 3) := by decide +kernel
theorem dX0_snow_54 : decode cX0_snow 54 = .ok (.invokestatic 69, 3) := by decide +kernel
theorem dX0_snow_57 : decode cX0_snow 57 = .ok (.iastore, 1) := by decide +kernel
theorem dX0_snow_58 : decode cX0_snow 58 = .ok (.iinc 3 1, 3) := by decide +kernel
theorem dX0_snow_61 : decode cX0_snow 61 = .ok (.goto (-47), 3) := by decide +kernel
theorem dX0_snow_64 : decode cX0_snow 64 = .ok (.return_, 1) := by decide +kernel
theorem dX0_keptOf_0 : decode cX0_keptOf 0 = .ok (.iload_n 1, 1) := by decide +kernel
theorem dX0_keptOf_1 : decode cX0_keptOf 1 = .ok (.invokestatic 72, 3) := by decide +kernel
theorem dX0_keptOf_4 : decode cX0_keptOf 4 = .ok (.istore_n 3, 1) := by decide +kernel
theorem dX0_keptOf_5 : decode cX0_keptOf 5 = .ok (.iload_n 2, 1) := by decide +kernel
theorem dX0_keptOf_6 : decode cX0_keptOf 6 = .ok (.iload_n 3, 1) := by decide +kernel
theorem dX0_keptOf_7 : decode cX0_keptOf 7 = .ok (.invokestatic 64, 3) := by decide +kernel
theorem dX0_keptOf_10 : decode cX0_keptOf 10 = .ok (.istore 4, 2) := by decide +kernel
theorem dX0_keptOf_12 : decode cX0_keptOf 12 = .ok (.aload_n 0, 1) := by decide +kernel
theorem dX0_keptOf_13 : decode cX0_keptOf 13 = .ok (.getfield 23, 3) := by decide +kernel
theorem dX0_keptOf_16 : decode cX0_keptOf 16 = .ok (.getfield 78, 3) := by decide +kernel
theorem dX0_keptOf_19 : decode cX0_keptOf 19 = .ok (.ifCond .ne 16, 3) := by decide +kernel
theorem dX0_keptOf_22 : decode cX0_keptOf 22 = .ok (.iload_n 1, 1) := by decide +kernel
theorem dX0_keptOf_23 : decode cX0_keptOf 23 = .ok (.iload_n 1, 1) := by decide +kernel
theorem dX0_keptOf_24 : decode cX0_keptOf 24 = .ok (.iload 4, 2) := by decide +kernel
theorem dX0_keptOf_26 : decode cX0_keptOf 26 = .ok (.invokestatic 81, 3) := by decide +kernel
theorem dX0_keptOf_29 : decode cX0_keptOf 29 = .ok (.iconst (-1), 1) := by decide +kernel
theorem dX0_keptOf_30 : decode cX0_keptOf 30 = .ok (.ixor, 1) := by decide +kernel
theorem dX0_keptOf_31 : decode cX0_keptOf 31 = .ok (.iand, 1) := by decide +kernel
theorem dX0_keptOf_32 : decode cX0_keptOf 32 = .ok (.goto 11, 3) := by decide +kernel
theorem dX0_keptOf_35 : decode cX0_keptOf 35 = .ok (.iload_n 1, 1) := by decide +kernel
theorem dX0_keptOf_36 : decode cX0_keptOf 36 = .ok (.iload_n 3, 1) := by decide +kernel
theorem dX0_keptOf_37 : decode cX0_keptOf 37 = .ok (.iload 4, 2) := by decide +kernel
theorem dX0_keptOf_39 : decode cX0_keptOf 39 = .ok (.isub, 1) := by decide +kernel
theorem dX0_keptOf_40 : decode cX0_keptOf 40 = .ok (.invokestatic 81, 3) := by decide +kernel
theorem dX0_keptOf_43 : decode cX0_keptOf 43 = .ok (.ireturn, 1) := by decide +kernel
theorem dX0_withoutLeast_0 : decode cX0_withoutLeast 0 = .ok (.iload_n 0, 1) := by decide +kernel
theorem dX0_withoutLeast_1 : decode cX0_withoutLeast 1 = .ok (.istore_n 2, 1) := by decide +kernel
theorem dX0_withoutLeast_2 : decode cX0_withoutLeast 2 = .ok (.iconst 0, 1) := by decide +kernel
theorem dX0_withoutLeast_3 : decode cX0_withoutLeast 3 = .ok (.istore_n 3, 1) := by decide +kernel
theorem dX0_withoutLeast_4 : decode cX0_withoutLeast 4 = .ok (.iload_n 3, 1) := by decide +kernel
theorem dX0_withoutLeast_5 : decode cX0_withoutLeast 5 = .ok (.iload_n 1, 1) := by decide +kernel
theorem dX0_withoutLeast_6 : decode cX0_withoutLeast 6 = .ok (.if_icmp .ge 15, 3) := by decide +kernel
theorem dX0_withoutLeast_9 : decode cX0_withoutLeast 9 = .ok (.iload_n 2, 1) := by decide +kernel
theorem dX0_withoutLeast_10 : decode cX0_withoutLeast 10 = .ok (.iload_n 2, 1) := by decide +kernel
theorem dX0_withoutLeast_11 : decode cX0_withoutLeast 11 = .ok (.iconst 1, 1) := by decide +kernel
theorem dX0_withoutLeast_12 : decode cX0_withoutLeast 12 = .ok (.isub, 1) := by decide +kernel
theorem dX0_withoutLeast_13 : decode cX0_withoutLeast 13 = .ok (.iand, 1) := by decide +kernel
theorem dX0_withoutLeast_14 : decode cX0_withoutLeast 14 = .ok (.istore_n 2, 1) := by decide +kernel
theorem dX0_withoutLeast_15 : decode cX0_withoutLeast 15 = .ok (.iinc 3 1, 3) := by decide +kernel
theorem dX0_withoutLeast_18 : decode cX0_withoutLeast 18 = .ok (.goto (-14), 3) := by decide +kernel
theorem dX0_withoutLeast_21 : decode cX0_withoutLeast 21 = .ok (.iload_n 2, 1) := by decide +kernel
theorem dX0_withoutLeast_22 : decode cX0_withoutLeast 22 = .ok (.ireturn, 1) := by decide +kernel
theorem dX0_onRoad_0 : decode cX0_onRoad 0 = .ok (.aload_n 0, 1) := by decide +kernel
theorem dX0_onRoad_1 : decode cX0_onRoad 1 = .ok (.getfield 16, 3) := by decide +kernel
theorem dX0_onRoad_4 : decode cX0_onRoad 4 = .ok (.iload_n 1, 1) := by decide +kernel
theorem dX0_onRoad_5 : decode cX0_onRoad 5 = .ok (.aaload, 1) := by decide +kernel
theorem dX0_onRoad_6 : decode cX0_onRoad 6 = .ok (.aload_n 0, 1) := by decide +kernel
theorem dX0_onRoad_7 : decode cX0_onRoad 7 = .ok (.getfield 23, 3) := by decide +kernel
theorem dX0_onRoad_10 : decode cX0_onRoad 10 = .ok (.getfield 39, 3) := by decide +kernel
theorem dX0_onRoad_13 : decode cX0_onRoad 13 = .ok (.iaload, 1) := by decide +kernel
theorem dX0_onRoad_14 : decode cX0_onRoad 14 = .ok (.ireturn, 1) := by decide +kernel
theorem dX0_placeOf_0 : decode cX0_placeOf 0 = .ok (.iconst 0, 1) := by decide +kernel
theorem dX0_placeOf_1 : decode cX0_placeOf 1 = .ok (.istore_n 3, 1) := by decide +kernel
theorem dX0_placeOf_2 : decode cX0_placeOf 2 = .ok (.iload_n 3, 1) := by decide +kernel
theorem dX0_placeOf_3 : decode cX0_placeOf 3 = .ok (.aload_n 0, 1) := by decide +kernel
theorem dX0_placeOf_4 : decode cX0_placeOf 4 = .ok (.getfield 23, 3) := by decide +kernel
theorem dX0_placeOf_7 : decode cX0_placeOf 7 = .ok (.getfield 39, 3) := by decide +kernel
theorem dX0_placeOf_10 : decode cX0_placeOf 10 = .ok (.if_icmp .ge 19, 3) := by decide +kernel
theorem dX0_placeOf_13 : decode cX0_placeOf 13 = .ok (.aload_n 0, 1) := by decide +kernel
theorem dX0_placeOf_14 : decode cX0_placeOf 14 = .ok (.iload_n 1, 1) := by decide +kernel
theorem dX0_placeOf_15 : decode cX0_placeOf 15 = .ok (.iload_n 3, 1) := by decide +kernel
theorem dX0_placeOf_16 : decode cX0_placeOf 16 = .ok (.iload_n 2, 1) := by decide +kernel
theorem dX0_placeOf_17 : decode cX0_placeOf 17 = .ok (.invokevirtual 84, 3) := by decide +kernel
theorem dX0_placeOf_20 : decode cX0_placeOf 20 = .ok (.ifCond .ne 9, 3) := by decide +kernel
theorem dX0_placeOf_23 : decode cX0_placeOf 23 = .ok (.iinc 3 1, 3) := by decide +kernel
theorem dX0_placeOf_26 : decode cX0_placeOf 26 = .ok (.goto (-24), 3) := by decide +kernel
theorem dX0_placeOf_29 : decode cX0_placeOf 29 = .ok (.iload_n 3, 1) := by decide +kernel
theorem dX0_placeOf_30 : decode cX0_placeOf 30 = .ok (.ireturn, 1) := by decide +kernel
theorem dX0_isAt_0 : decode cX0_isAt 0 = .ok (.aload_n 0, 1) := by decide +kernel
theorem dX0_isAt_1 : decode cX0_isAt 1 = .ok (.getfield 16, 3) := by decide +kernel
theorem dX0_isAt_4 : decode cX0_isAt 4 = .ok (.iload_n 3, 1) := by decide +kernel
theorem dX0_isAt_5 : decode cX0_isAt 5 = .ok (.aaload, 1) := by decide +kernel
theorem dX0_isAt_6 : decode cX0_isAt 6 = .ok (.iload_n 2, 1) := by decide +kernel
theorem dX0_isAt_7 : decode cX0_isAt 7 = .ok (.iaload, 1) := by decide +kernel
theorem dX0_isAt_8 : decode cX0_isAt 8 = .ok (.iload_n 1, 1) := by decide +kernel
theorem dX0_isAt_9 : decode cX0_isAt 9 = .ok (.ishr, 1) := by decide +kernel
theorem dX0_isAt_10 : decode cX0_isAt 10 = .ok (.iconst 1, 1) := by decide +kernel
theorem dX0_isAt_11 : decode cX0_isAt 11 = .ok (.iand, 1) := by decide +kernel
theorem dX0_isAt_12 : decode cX0_isAt 12 = .ok (.iconst 1, 1) := by decide +kernel
theorem dX0_isAt_13 : decode cX0_isAt 13 = .ok (.if_icmp .ne 7, 3) := by decide +kernel
theorem dX0_isAt_16 : decode cX0_isAt 16 = .ok (.iconst 1, 1) := by decide +kernel
theorem dX0_isAt_17 : decode cX0_isAt 17 = .ok (.goto 4, 3) := by decide +kernel
theorem dX0_isAt_20 : decode cX0_isAt 20 = .ok (.iconst 0, 1) := by decide +kernel
theorem dX0_isAt_21 : decode cX0_isAt 21 = .ok (.ireturn, 1) := by decide +kernel
theorem dX0_isMeeting_0 : decode cX0_isMeeting 0 = .ok (.iconst 0, 1) := by decide +kernel
theorem dX0_isMeeting_1 : decode cX0_isMeeting 1 = .ok (.istore_n 3, 1) := by decide +kernel
theorem dX0_isMeeting_2 : decode cX0_isMeeting 2 = .ok (.iload_n 3, 1) := by decide +kernel
theorem dX0_isMeeting_3 : decode cX0_isMeeting 3 = .ok (.aload_n 0, 1) := by decide +kernel
theorem dX0_isMeeting_4 : decode cX0_isMeeting 4 = .ok (.getfield 23, 3) := by decide +kernel
theorem dX0_isMeeting_7 : decode cX0_isMeeting 7 = .ok (.getfield 39, 3) := by decide +kernel
theorem dX0_isMeeting_10 : decode cX0_isMeeting 10 = .ok (.if_icmp .ge 25, 3) := by decide +kernel
theorem dX0_isMeeting_13 : decode cX0_isMeeting 13 = .ok (.aload_n 0, 1) := by decide +kernel
theorem dX0_isMeeting_14 : decode cX0_isMeeting 14 = .ok (.getfield 16, 3) := by decide +kernel
theorem dX0_isMeeting_17 : decode cX0_isMeeting 17 = .ok (.iload_n 2, 1) := by decide +kernel
theorem dX0_isMeeting_18 : decode cX0_isMeeting 18 = .ok (.aaload, 1) := by decide +kernel
theorem dX0_isMeeting_19 : decode cX0_isMeeting 19 = .ok (.iload_n 3, 1) := by decide +kernel
theorem dX0_isMeeting_20 : decode cX0_isMeeting 20 = .ok (.iaload, 1) := by decide +kernel
theorem dX0_isMeeting_21 : decode cX0_isMeeting 21 = .ok (.iload_n 1, 1) := by decide +kernel
theorem dX0_isMeeting_22 : decode cX0_isMeeting 22 = .ok (.iand, 1) := by decide +kernel
theorem dX0_isMeeting_23 : decode cX0_isMeeting 23 = .ok (.iload_n 1, 1) := by decide +kernel
theorem dX0_isMeeting_24 : decode cX0_isMeeting 24 = .ok (.if_icmp .ne 5, 3) := by decide +kernel
theorem dX0_isMeeting_27 : decode cX0_isMeeting 27 = .ok (.iconst 1, 1) := by decide +kernel
theorem dX0_isMeeting_28 : decode cX0_isMeeting 28 = .ok (.ireturn, 1) := by decide +kernel
theorem dX0_isMeeting_29 : decode cX0_isMeeting 29 = .ok (.iinc 3 1, 3) := by decide +kernel
theorem dX0_isMeeting_32 : decode cX0_isMeeting 32 = .ok (.goto (-30), 3) := by decide +kernel
theorem dX0_isMeeting_35 : decode cX0_isMeeting 35 = .ok (.iconst 0, 1) := by decide +kernel
theorem dX0_isMeeting_36 : decode cX0_isMeeting 36 = .ok (.ireturn, 1) := by decide +kernel
theorem dX0_firstMeeting_0 : decode cX0_firstMeeting 0 = .ok (.aload_n 0, 1) := by decide +kernel
theorem dX0_firstMeeting_1 : decode cX0_firstMeeting 1 = .ok (.invokevirtual 27, 3) := by decide +kernel
theorem dX0_firstMeeting_4 : decode cX0_firstMeeting 4 = .ok (.iconst 0, 1) := by decide +kernel
theorem dX0_firstMeeting_5 : decode cX0_firstMeeting 5 = .ok (.istore_n 3, 1) := by decide +kernel
theorem dX0_firstMeeting_6 : decode cX0_firstMeeting 6 = .ok (.iload_n 3, 1) := by decide +kernel
theorem dX0_firstMeeting_7 : decode cX0_firstMeeting 7 = .ok (.iload_n 2, 1) := by decide +kernel
theorem dX0_firstMeeting_8 : decode cX0_firstMeeting 8 = .ok (.if_icmp .ge 36, 3) := by decide +kernel
theorem dX0_firstMeeting_11 : decode cX0_firstMeeting 11 = .ok (.aload_n 0, 1) := by decide +kernel
theorem dX0_firstMeeting_12 : decode cX0_firstMeeting 12 = .ok (.iload_n 3, 1) := by decide +kernel
theorem dX0_firstMeeting_13 : decode cX0_firstMeeting 13 = .ok (.aload_n 0, 1) := by decide +kernel
theorem dX0_firstMeeting_14 : decode cX0_firstMeeting 14 = .ok (.getfield 23, 3) := by decide +kernel
theorem dX0_firstMeeting_17 : decode cX0_firstMeeting 17 = .ok (.getfield 30, 3) := by decide +kernel
theorem dX0_firstMeeting_20 : decode cX0_firstMeeting 20 = .ok (.iload_n 3, 1) := by decide +kernel
theorem dX0_firstMeeting_21 : decode cX0_firstMeeting 21 = .ok (.iaload, 1) := by decide +kernel
theorem dX0_firstMeeting_22 : decode cX0_firstMeeting 22 = .ok (.invokevirtual 35, 3) := by decide +kernel
theorem dX0_firstMeeting_25 : decode cX0_firstMeeting 25 = .ok (.aload_n 0, 1) := by decide +kernel
theorem dX0_firstMeeting_26 : decode cX0_firstMeeting 26 = .ok (.iload_n 1, 1) := by decide +kernel
theorem dX0_firstMeeting_27 : decode cX0_firstMeeting 27 = .ok (.iload_n 3, 1) := by decide +kernel
theorem dX0_firstMeeting_28 : decode cX0_firstMeeting 28 = .ok (.iconst 1, 1) := by decide +kernel
theorem dX0_firstMeeting_29 : decode cX0_firstMeeting 29 = .ok (.iadd, 1) := by decide +kernel
theorem dX0_firstMeeting_30 : decode cX0_firstMeeting 30 = .ok (.invokevirtual 88, 3) := by decide +kernel
theorem dX0_firstMeeting_33 : decode cX0_firstMeeting 33 = .ok (.ifCond .eq 5, 3) := by decide +kernel
theorem dX0_firstMeeting_36 : decode cX0_firstMeeting 36 = .ok (.iload_n 3, 1) := by decide +kernel
theorem dX0_firstMeeting_37 : decode cX0_firstMeeting 37 = .ok (.ireturn, 1) := by decide +kernel
theorem dX0_firstMeeting_38 : decode cX0_firstMeeting 38 = .ok (.iinc 3 1, 3) := by decide +kernel
theorem dX0_firstMeeting_41 : decode cX0_firstMeeting 41 = .ok (.goto (-35), 3) := by decide +kernel
theorem dX0_firstMeeting_44 : decode cX0_firstMeeting 44 = .ok (.bipush (-9), 2) := by decide +kernel
theorem dX0_firstMeeting_46 : decode cX0_firstMeeting 46 = .ok (.ireturn, 1) := by decide +kernel
theorem dX0_leaveRoadEmpty_0 : decode cX0_leaveRoadEmpty 0 = .ok (.aload_n 0, 1) := by decide +kernel
theorem dX0_leaveRoadEmpty_1 : decode cX0_leaveRoadEmpty 1 = .ok (.invokevirtual 27, 3) := by decide +kernel
theorem dX0_leaveRoadEmpty_4 : decode cX0_leaveRoadEmpty 4 = .ok (.iconst 0, 1) := by decide +kernel
theorem dX0_leaveRoadEmpty_5 : decode cX0_leaveRoadEmpty 5 = .ok (.istore_n 2, 1) := by decide +kernel
theorem dX0_leaveRoadEmpty_6 : decode cX0_leaveRoadEmpty 6 = .ok (.iload_n 2, 1) := by decide +kernel
theorem dX0_leaveRoadEmpty_7 : decode cX0_leaveRoadEmpty 7 = .ok (.iload_n 1, 1) := by decide +kernel
theorem dX0_leaveRoadEmpty_8 : decode cX0_leaveRoadEmpty 8 = .ok (.if_icmp .ge 35, 3) := by decide +kernel
theorem dX0_leaveRoadEmpty_11 : decode cX0_leaveRoadEmpty 11 = .ok (.aload_n 0, 1) := by decide +kernel
theorem dX0_leaveRoadEmpty_12 : decode cX0_leaveRoadEmpty 12 = .ok (.iload_n 2, 1) := by decide +kernel
theorem dX0_leaveRoadEmpty_13 : decode cX0_leaveRoadEmpty 13 = .ok (.aload_n 0, 1) := by decide +kernel
theorem dX0_leaveRoadEmpty_14 : decode cX0_leaveRoadEmpty 14 = .ok (.getfield 23, 3) := by decide +kernel
theorem dX0_leaveRoadEmpty_17 : decode cX0_leaveRoadEmpty 17 = .ok (.getfield 30, 3) := by decide +kernel
theorem dX0_leaveRoadEmpty_20 : decode cX0_leaveRoadEmpty 20 = .ok (.iload_n 2, 1) := by decide +kernel
theorem dX0_leaveRoadEmpty_21 : decode cX0_leaveRoadEmpty 21 = .ok (.iaload, 1) := by decide +kernel
theorem dX0_leaveRoadEmpty_22 : decode cX0_leaveRoadEmpty 22 = .ok (.invokevirtual 35, 3) := by decide +kernel
theorem dX0_leaveRoadEmpty_25 : decode cX0_leaveRoadEmpty 25 = .ok (.aload_n 0, 1) := by decide +kernel
theorem dX0_leaveRoadEmpty_26 : decode cX0_leaveRoadEmpty 26 = .ok (.iload_n 2, 1) := by decide +kernel
theorem dX0_leaveRoadEmpty_27 : decode cX0_leaveRoadEmpty 27 = .ok (.iconst 1, 1) := by decide +kernel
theorem dX0_leaveRoadEmpty_28 : decode cX0_leaveRoadEmpty 28 = .ok (.iadd, 1) := by decide +kernel
theorem dX0_leaveRoadEmpty_29 : decode cX0_leaveRoadEmpty 29 = .ok (.invokevirtual 92, 3) := by decide +kernel
theorem dX0_leaveRoadEmpty_32 : decode cX0_leaveRoadEmpty 32 = .ok (.ifCond .eq 5, 3) := by decide +kernel
theorem dX0_leaveRoadEmpty_35 : decode cX0_leaveRoadEmpty 35 = .ok (.iconst 0, 1) := by decide +kernel
theorem dX0_leaveRoadEmpty_36 : decode cX0_leaveRoadEmpty 36 = .ok (.ireturn, 1) := by decide +kernel
theorem dX0_leaveRoadEmpty_37 : decode cX0_leaveRoadEmpty 37 = .ok (.iinc 2 1, 3) := by decide +kernel
theorem dX0_leaveRoadEmpty_40 : decode cX0_leaveRoadEmpty 40 = .ok (.goto (-34), 3) := by decide +kernel
theorem dX0_leaveRoadEmpty_43 : decode cX0_leaveRoadEmpty 43 = .ok (.iconst 1, 1) := by decide +kernel
theorem dX0_leaveRoadEmpty_44 : decode cX0_leaveRoadEmpty 44 = .ok (.ireturn, 1) := by decide +kernel
theorem dX1_init_0 : decode cX1_init 0 = .ok (.aload_n 0, 1) := by decide +kernel
theorem dX1_init_1 : decode cX1_init 1 = .ok (.invokespecial 3, 3) := by decide +kernel
theorem dX1_init_4 : decode cX1_init 4 = .ok (.aload_n 0, 1) := by decide +kernel
theorem dX1_init_5 : decode cX1_init 5 = .ok (.iconst 0, 1) := by decide +kernel
theorem dX1_init_6 : decode cX1_init 6 = .ok (.putfield 9, 3) := by decide +kernel
theorem dX1_init_9 : decode cX1_init 9 = .ok (.aload_n 0, 1) := by decide +kernel
theorem dX1_init_10 : decode cX1_init 10 = .ok (.bipush 8, 2) := by decide +kernel
theorem dX1_init_12 : decode cX1_init 12 = .ok (.newarray .int, 2) := by decide +kernel
theorem dX1_init_14 : decode cX1_init 14 = .ok (.putfield 15, 3) := by decide +kernel
theorem dX1_init_17 : decode cX1_init 17 = .ok (.aload_n 0, 1) := by decide +kernel
theorem dX1_init_18 : decode cX1_init 18 = .ok (.bipush 8, 2) := by decide +kernel
theorem dX1_init_20 : decode cX1_init 20 = .ok (.newarray .int, 2) := by decide +kernel
theorem dX1_init_22 : decode cX1_init 22 = .ok (.putfield 19, 3) := by decide +kernel
theorem dX1_init_25 : decode cX1_init 25 = .ok (.aload_n 0, 1) := by decide +kernel
theorem dX1_init_26 : decode cX1_init 26 = .ok (.bipush 8, 2) := by decide +kernel
theorem dX1_init_28 : decode cX1_init 28 = .ok (.newarray .int, 2) := by decide +kernel
theorem dX1_init_30 : decode cX1_init 30 = .ok (.putfield 22, 3) := by decide +kernel
theorem dX1_init_33 : decode cX1_init 33 = .ok (.return_, 1) := by decide +kernel
theorem dX1_clear_0 : decode cX1_clear 0 = .ok (.aload_n 0, 1) := by decide +kernel
theorem dX1_clear_1 : decode cX1_clear 1 = .ok (.iconst 0, 1) := by decide +kernel
theorem dX1_clear_2 : decode cX1_clear 2 = .ok (.putfield 9, 3) := by decide +kernel
theorem dX1_clear_5 : decode cX1_clear 5 = .ok (.return_, 1) := by decide +kernel
theorem dX1_add_0 : decode cX1_add 0 = .ok (.aload_n 0, 1) := by decide +kernel
theorem dX1_add_1 : decode cX1_add 1 = .ok (.getfield 15, 3) := by decide +kernel
theorem dX1_add_4 : decode cX1_add 4 = .ok (.aload_n 0, 1) := by decide +kernel
theorem dX1_add_5 : decode cX1_add 5 = .ok (.getfield 9, 3) := by decide +kernel
theorem dX1_add_8 : decode cX1_add 8 = .ok (.iload_n 1, 1) := by decide +kernel
theorem dX1_add_9 : decode cX1_add 9 = .ok (.iastore, 1) := by decide +kernel
theorem dX1_add_10 : decode cX1_add 10 = .ok (.aload_n 0, 1) := by decide +kernel
theorem dX1_add_11 : decode cX1_add 11 = .ok (.getfield 19, 3) := by decide +kernel
theorem dX1_add_14 : decode cX1_add 14 = .ok (.aload_n 0, 1) := by decide +kernel
theorem dX1_add_15 : decode cX1_add 15 = .ok (.getfield 9, 3) := by decide +kernel
theorem dX1_add_18 : decode cX1_add 18 = .ok (.iload_n 2, 1) := by decide +kernel
theorem dX1_add_19 : decode cX1_add 19 = .ok (.iastore, 1) := by decide +kernel
theorem dX1_add_20 : decode cX1_add 20 = .ok (.aload_n 0, 1) := by decide +kernel
theorem dX1_add_21 : decode cX1_add 21 = .ok (.getfield 22, 3) := by decide +kernel
theorem dX1_add_24 : decode cX1_add 24 = .ok (.aload_n 0, 1) := by decide +kernel
theorem dX1_add_25 : decode cX1_add 25 = .ok (.getfield 9, 3) := by decide +kernel
theorem dX1_add_28 : decode cX1_add 28 = .ok (.iload_n 3, 1) := by decide +kernel
theorem dX1_add_29 : decode cX1_add 29 = .ok (.iastore, 1) := by decide +kernel
theorem dX1_add_30 : decode cX1_add 30 = .ok (.aload_n 0, 1) := by decide +kernel
theorem dX1_add_31 : decode cX1_add 31 = .ok (.dup, 1) := by decide +kernel
theorem dX1_add_32 : decode cX1_add 32 = .ok (.getfield 9, 3) := by decide +kernel
theorem dX1_add_35 : decode cX1_add 35 = .ok (.iconst 1, 1) := by decide +kernel
theorem dX1_add_36 : decode cX1_add 36 = .ok (.iadd, 1) := by decide +kernel
theorem dX1_add_37 : decode cX1_add 37 = .ok (.putfield 9, 3) := by decide +kernel
theorem dX1_add_40 : decode cX1_add 40 = .ok (.aload_n 0, 1) := by decide +kernel
theorem dX1_add_41 : decode cX1_add 41 = .ok (.getfield 9, 3) := by decide +kernel
theorem dX1_add_44 : decode cX1_add 44 = .ok (.iconst 1, 1) := by decide +kernel
theorem dX1_add_45 : decode cX1_add 45 = .ok (.isub, 1) := by decide +kernel
theorem dX1_add_46 : decode cX1_add 46 = .ok (.ireturn, 1) := by decide +kernel
theorem dX1_areSo_0 : decode cX1_areSo 0 = .ok (.iconst 0, 1) := by decide +kernel
theorem dX1_areSo_1 : decode cX1_areSo 1 = .ok (.istore_n 2, 1) := by decide +kernel
theorem dX1_areSo_2 : decode cX1_areSo 2 = .ok (.iload_n 2, 1) := by decide +kernel
theorem dX1_areSo_3 : decode cX1_areSo 3 = .ok (.aload_n 0, 1) := by decide +kernel
theorem dX1_areSo_4 : decode cX1_areSo 4 = .ok (.getfield 9, 3) := by decide +kernel
theorem dX1_areSo_7 : decode cX1_areSo 7 = .ok (.if_icmp .ge 38, 3) := by decide +kernel
theorem dX1_areSo_10 : decode cX1_areSo 10 = .ok (.aload_n 1, 1) := by decide +kernel
theorem dX1_areSo_11 : decode cX1_areSo 11 = .ok (.aload_n 0, 1) := by decide +kernel
theorem dX1_areSo_12 : decode cX1_areSo 12 = .ok (.getfield 15, 3) := by decide +kernel
theorem dX1_areSo_15 : decode cX1_areSo 15 = .ok (.iload_n 2, 1) := by decide +kernel
theorem dX1_areSo_16 : decode cX1_areSo 16 = .ok (.iaload, 1) := by decide +kernel
theorem dX1_areSo_17 : decode cX1_areSo 17 = .ok (.aload_n 0, 1) := by decide +kernel
theorem dX1_areSo_18 : decode cX1_areSo 18 = .ok (.getfield 19, 3) := by decide +kernel
theorem dX1_areSo_21 : decode cX1_areSo 21 = .ok (.iload_n 2, 1) := by decide +kernel
theorem dX1_areSo_22 : decode cX1_areSo 22 = .ok (.iaload, 1) := by decide +kernel
theorem dX1_areSo_23 : decode cX1_areSo 23 = .ok (.aload_n 0, 1) := by decide +kernel
theorem dX1_areSo_24 : decode cX1_areSo 24 = .ok (.getfield 22, 3) := by decide +kernel
theorem dX1_areSo_27 : decode cX1_areSo 27 = .ok (.iload_n 2, 1) := by decide +kernel
theorem dX1_areSo_28 : decode cX1_areSo 28 = .ok (.iaload, 1) := by decide +kernel
theorem dX1_areSo_29 : decode cX1_areSo 29 = .ok (.iconst 1, 1) := by decide +kernel
theorem dX1_areSo_30 : decode cX1_areSo 30 = .ok (.iadd, 1) := by decide +kernel
theorem dX1_areSo_31 : decode cX1_areSo 31 = .ok (.invokevirtual 25, 3) := by decide +kernel
theorem dX1_areSo_34 : decode cX1_areSo 34 = .ok (.ifCond .ne 5, 3) := by decide +kernel
theorem dX1_areSo_37 : decode cX1_areSo 37 = .ok (.iconst 0, 1) := by decide +kernel
theorem dX1_areSo_38 : decode cX1_areSo 38 = .ok (.ireturn, 1) := by decide +kernel
theorem dX1_areSo_39 : decode cX1_areSo 39 = .ok (.iinc 2 1, 3) := by decide +kernel
theorem dX1_areSo_42 : decode cX1_areSo 42 = .ok (.goto (-40), 3) := by decide +kernel
theorem dX1_areSo_45 : decode cX1_areSo 45 = .ok (.iconst 1, 1) := by decide +kernel
theorem dX1_areSo_46 : decode cX1_areSo 46 = .ok (.ireturn, 1) := by decide +kernel
theorem dX2_init_0 : decode cX2_init 0 = .ok (.aload_n 0, 1) := by decide +kernel
theorem dX2_init_1 : decode cX2_init 1 = .ok (.invokespecial 3, 3) := by decide +kernel
theorem dX2_init_4 : decode cX2_init 4 = .ok (.aload_n 0, 1) := by decide +kernel
theorem dX2_init_5 : decode cX2_init 5 = .ok (.iconst 0, 1) := by decide +kernel
theorem dX2_init_6 : decode cX2_init 6 = .ok (.putfield 9, 3) := by decide +kernel
theorem dX2_init_9 : decode cX2_init 9 = .ok (.aload_n 0, 1) := by decide +kernel
theorem dX2_init_10 : decode cX2_init 10 = .ok (.bipush 6, 2) := by decide +kernel
theorem dX2_init_12 : decode cX2_init 12 = .ok (.newarray .int, 2) := by decide +kernel
theorem dX2_init_14 : decode cX2_init 14 = .ok (.putfield 15, 3) := by decide +kernel
theorem dX2_init_17 : decode cX2_init 17 = .ok (.aload_n 0, 1) := by decide +kernel
theorem dX2_init_18 : decode cX2_init 18 = .ok (.bipush 6, 2) := by decide +kernel
theorem dX2_init_20 : decode cX2_init 20 = .ok (.newarray .int, 2) := by decide +kernel
theorem dX2_init_22 : decode cX2_init 22 = .ok (.putfield 19, 3) := by decide +kernel
theorem dX2_init_25 : decode cX2_init 25 = .ok (.aload_n 0, 1) := by decide +kernel
theorem dX2_init_26 : decode cX2_init 26 = .ok (.iconst 0, 1) := by decide +kernel
theorem dX2_init_27 : decode cX2_init 27 = .ok (.putfield 22, 3) := by decide +kernel
theorem dX2_init_30 : decode cX2_init 30 = .ok (.aload_n 0, 1) := by decide +kernel
theorem dX2_init_31 : decode cX2_init 31 = .ok (.bipush 8, 2) := by decide +kernel
theorem dX2_init_33 : decode cX2_init 33 = .ok (.newarray .int, 2) := by decide +kernel
theorem dX2_init_35 : decode cX2_init 35 = .ok (.putfield 25, 3) := by decide +kernel
theorem dX2_init_38 : decode cX2_init 38 = .ok (.aload_n 0, 1) := by decide +kernel
theorem dX2_init_39 : decode cX2_init 39 = .ok (.bipush 8, 2) := by decide +kernel
theorem dX2_init_41 : decode cX2_init 41 = .ok (.newarray .int, 2) := by decide +kernel
theorem dX2_init_43 : decode cX2_init 43 = .ok (.putfield 28, 3) := by decide +kernel
theorem dX2_init_46 : decode cX2_init 46 = .ok (.aload_n 0, 1) := by decide +kernel
theorem dX2_init_47 : decode cX2_init 47 = .ok (.iconst 0, 1) := by decide +kernel
theorem dX2_init_48 : decode cX2_init 48 = .ok (.putfield 31, 3) := by decide +kernel
theorem dX2_init_51 : decode cX2_init 51 = .ok (.aload_n 0, 1) := by decide +kernel
theorem dX2_init_52 : decode cX2_init 52 = .ok (.bipush 8, 2) := by decide +kernel
theorem dX2_init_54 : decode cX2_init 54 = .ok (.newarray .int, 2) := by decide +kernel
theorem dX2_init_56 : decode cX2_init 56 = .ok (.putfield 34, 3) := by decide +kernel
theorem dX2_init_59 : decode cX2_init 59 = .ok (.aload_n 0, 1) := by decide +kernel
theorem dX2_init_60 : decode cX2_init 60 = .ok (.bipush 8, 2) := by decide +kernel
theorem dX2_init_62 : decode cX2_init 62 = .ok (.newarray .int, 2) := by decide +kernel
theorem dX2_init_64 : decode cX2_init 64 = .ok (.putfield 37, 3) := by decide +kernel
theorem dX2_init_67 : decode cX2_init 67 = .ok (.aload_n 0, 1) := by decide +kernel
theorem dX2_init_68 : decode cX2_init 68 = .ok (.iconst 0, 1) := by decide +kernel
theorem dX2_init_69 : decode cX2_init 69 = .ok (.putfield 40, 3) := by decide +kernel
theorem dX2_init_72 : decode cX2_init 72 = .ok (.aload_n 0, 1) := by decide +kernel
theorem dX2_init_73 : decode cX2_init 73 = .ok (.bipush (-9), 2) := by decide +kernel
theorem dX2_init_75 : decode cX2_init 75 = .ok (.putfield 43, 3) := by decide +kernel
theorem dX2_init_78 : decode cX2_init 78 = .ok (.return_, 1) := by decide +kernel
theorem dX2_clear_0 : decode cX2_clear 0 = .ok (.aload_n 0, 1) := by decide +kernel
theorem dX2_clear_1 : decode cX2_clear 1 = .ok (.iconst 0, 1) := by decide +kernel
theorem dX2_clear_2 : decode cX2_clear 2 = .ok (.putfield 9, 3) := by decide +kernel
theorem dX2_clear_5 : decode cX2_clear 5 = .ok (.aload_n 0, 1) := by decide +kernel
theorem dX2_clear_6 : decode cX2_clear 6 = .ok (.iconst 0, 1) := by decide +kernel
theorem dX2_clear_7 : decode cX2_clear 7 = .ok (.putfield 22, 3) := by decide +kernel
theorem dX2_clear_10 : decode cX2_clear 10 = .ok (.aload_n 0, 1) := by decide +kernel
theorem dX2_clear_11 : decode cX2_clear 11 = .ok (.iconst 0, 1) := by decide +kernel
theorem dX2_clear_12 : decode cX2_clear 12 = .ok (.putfield 31, 3) := by decide +kernel
theorem dX2_clear_15 : decode cX2_clear 15 = .ok (.aload_n 0, 1) := by decide +kernel
theorem dX2_clear_16 : decode cX2_clear 16 = .ok (.iconst 0, 1) := by decide +kernel
theorem dX2_clear_17 : decode cX2_clear 17 = .ok (.putfield 40, 3) := by decide +kernel
theorem dX2_clear_20 : decode cX2_clear 20 = .ok (.aload_n 0, 1) := by decide +kernel
theorem dX2_clear_21 : decode cX2_clear 21 = .ok (.bipush (-9), 2) := by decide +kernel
theorem dX2_clear_23 : decode cX2_clear 23 = .ok (.putfield 43, 3) := by decide +kernel
theorem dX2_clear_26 : decode cX2_clear 26 = .ok (.return_, 1) := by decide +kernel
theorem dX2_become_0 : decode cX2_become 0 = .ok (.aload_n 0, 1) := by decide +kernel
theorem dX2_become_1 : decode cX2_become 1 = .ok (.aload_n 1, 1) := by decide +kernel
theorem dX2_become_2 : decode cX2_become 2 = .ok (.getfield 9, 3) := by decide +kernel
theorem dX2_become_5 : decode cX2_become 5 = .ok (.putfield 9, 3) := by decide +kernel
theorem dX2_become_8 : decode cX2_become 8 = .ok (.aload_n 0, 1) := by decide +kernel
theorem dX2_become_9 : decode cX2_become 9 = .ok (.aload_n 1, 1) := by decide +kernel
theorem dX2_become_10 : decode cX2_become 10 = .ok (.getfield 22, 3) := by decide +kernel
theorem dX2_become_13 : decode cX2_become 13 = .ok (.putfield 22, 3) := by decide +kernel
theorem dX2_become_16 : decode cX2_become 16 = .ok (.aload_n 0, 1) := by decide +kernel
theorem dX2_become_17 : decode cX2_become 17 = .ok (.aload_n 1, 1) := by decide +kernel
theorem dX2_become_18 : decode cX2_become 18 = .ok (.getfield 31, 3) := by decide +kernel
theorem dX2_become_21 : decode cX2_become 21 = .ok (.putfield 31, 3) := by decide +kernel
theorem dX2_become_24 : decode cX2_become 24 = .ok (.aload_n 0, 1) := by decide +kernel
theorem dX2_become_25 : decode cX2_become 25 = .ok (.aload_n 1, 1) := by decide +kernel
theorem dX2_become_26 : decode cX2_become 26 = .ok (.getfield 40, 3) := by decide +kernel
theorem dX2_become_29 : decode cX2_become 29 = .ok (.putfield 40, 3) := by decide +kernel
theorem dX2_become_32 : decode cX2_become 32 = .ok (.aload_n 0, 1) := by decide +kernel
theorem dX2_become_33 : decode cX2_become 33 = .ok (.aload_n 1, 1) := by decide +kernel
theorem dX2_become_34 : decode cX2_become 34 = .ok (.getfield 43, 3) := by decide +kernel
theorem dX2_become_37 : decode cX2_become 37 = .ok (.putfield 43, 3) := by decide +kernel
theorem dX2_become_40 : decode cX2_become 40 = .ok (.aload_n 1, 1) := by decide +kernel
theorem dX2_become_41 : decode cX2_become 41 = .ok (.getfield 15, 3) := by decide +kernel
theorem dX2_become_44 : decode cX2_become 44 = .ok (.iconst 0, 1) := by decide +kernel
theorem dX2_become_45 : decode cX2_become 45 = .ok (.aload_n 0, 1) := by decide +kernel
theorem dX2_become_46 : decode cX2_become 46 = .ok (.getfield 15, 3) := by decide +kernel
theorem dX2_become_49 : decode cX2_become 49 = .ok (.iconst 0, 1) := by decide +kernel
theorem dX2_become_50 : decode cX2_become 50 = .ok (.bipush 6, 2) := by decide +kernel
theorem dX2_become_52 : decode cX2_become 52 = .ok (.invokestatic 46, 3) := by decide +kernel
theorem dX2_become_55 : decode cX2_become 55 = .ok (.aload_n 1, 1) := by decide +kernel
theorem dX2_become_56 : decode cX2_become 56 = .ok (.getfield 19, 3) := by decide +kernel
theorem dX2_become_59 : decode cX2_become 59 = .ok (.iconst 0, 1) := by decide +kernel
theorem dX2_become_60 : decode cX2_become 60 = .ok (.aload_n 0, 1) := by decide +kernel
theorem dX2_become_61 : decode cX2_become 61 = .ok (.getfield 19, 3) := by decide +kernel
theorem dX2_become_64 : decode cX2_become 64 = .ok (.iconst 0, 1) := by decide +kernel
theorem dX2_become_65 : decode cX2_become 65 = .ok (.bipush 6, 2) := by decide +kernel
theorem dX2_become_67 : decode cX2_become 67 = .ok (.invokestatic 46, 3) := by decide +kernel
theorem dX2_become_70 : decode cX2_become 70 = .ok (.aload_n 1, 1) := by decide +kernel
theorem dX2_become_71 : decode cX2_become 71 = .ok (.getfield 25, 3) := by decide +kernel
theorem dX2_become_74 : decode cX2_become 74 = .ok (.iconst 0, 1) := by decide +kernel
theorem dX2_become_75 : decode cX2_become 75 = .ok (.aload_n 0, 1) := by decide +kernel
theorem dX2_become_76 : decode cX2_become 76 = .ok (.getfield 25, 3) := by decide +kernel
theorem dX2_become_79 : decode cX2_become 79 = .ok (.iconst 0, 1) := by decide +kernel
theorem dX2_become_80 : decode cX2_become 80 = .ok (.bipush 8, 2) := by decide +kernel
theorem dX2_become_82 : decode cX2_become 82 = .ok (.invokestatic 46, 3) := by decide +kernel
theorem dX2_become_85 : decode cX2_become 85 = .ok (.aload_n 1, 1) := by decide +kernel
theorem dX2_become_86 : decode cX2_become 86 = .ok (.getfield 28, 3) := by decide +kernel
theorem dX2_become_89 : decode cX2_become 89 = .ok (.iconst 0, 1) := by decide +kernel
theorem dX2_become_90 : decode cX2_become 90 = .ok (.aload_n 0, 1) := by decide +kernel
theorem dX2_become_91 : decode cX2_become 91 = .ok (.getfield 28, 3) := by decide +kernel
theorem dX2_become_94 : decode cX2_become 94 = .ok (.iconst 0, 1) := by decide +kernel
theorem dX2_become_95 : decode cX2_become 95 = .ok (.bipush 8, 2) := by decide +kernel
theorem dX2_become_97 : decode cX2_become 97 = .ok (.invokestatic 46, 3) := by decide +kernel
theorem dX2_become_100 : decode cX2_become 100 = .ok (.aload_n 1, 1) := by decide +kernel
theorem dX2_become_101 : decode cX2_become 101 = .ok (.getfield 34, 3) := by decide +kernel
theorem dX2_become_104 : decode cX2_become 104 = .ok (.iconst 0, 1) := by decide +kernel
theorem dX2_become_105 : decode cX2_become 105 = .ok (.aload_n 0, 1) := by decide +kernel
theorem dX2_become_106 : decode cX2_become 106 = .ok (.getfield 34, 3) := by decide +kernel
theorem dX2_become_109 : decode cX2_become 109 = .ok (.iconst 0, 1) := by decide +kernel
theorem dX2_become_110 : decode cX2_become 110 = .ok (.bipush 8, 2) := by decide +kernel
theorem dX2_become_112 : decode cX2_become 112 = .ok (.invokestatic 46, 3) := by decide +kernel
theorem dX2_become_115 : decode cX2_become 115 = .ok (.aload_n 1, 1) := by decide +kernel
theorem dX2_become_116 : decode cX2_become 116 = .ok (.getfield 37, 3) := by decide +kernel
theorem dX2_become_119 : decode cX2_become 119 = .ok (.iconst 0, 1) := by decide +kernel
theorem dX2_become_120 : decode cX2_become 120 = .ok (.aload_n 0, 1) := by decide +kernel
theorem dX2_become_121 : decode cX2_become 121 = .ok (.getfield 37, 3) := by decide +kernel
theorem dX2_become_124 : decode cX2_become 124 = .ok (.iconst 0, 1) := by decide +kernel
theorem dX2_become_125 : decode cX2_become 125 = .ok (.bipush 8, 2) := by decide +kernel
theorem dX2_become_127 : decode cX2_become 127 = .ok (.invokestatic 46, 3) := by decide +kernel
theorem dX2_become_130 : decode cX2_become 130 = .ok (.return_, 1) := by decide +kernel
theorem dX2_stands_0 : decode cX2_stands 0 = .ok (.aload_n 0, 1) := by decide +kernel
theorem dX2_stands_1 : decode cX2_stands 1 = .ok (.getfield 9, 3) := by decide +kernel
theorem dX2_stands_4 : decode cX2_stands 4 = .ok (.ifCond .le 7, 3) := by decide +kernel
theorem dX2_stands_7 : decode cX2_stands 7 = .ok (.iconst 1, 1) := by decide +kernel
theorem dX2_stands_8 : decode cX2_stands 8 = .ok (.goto 4, 3) := by decide +kernel
theorem dX2_stands_11 : decode cX2_stands 11 = .ok (.iconst 0, 1) := by decide +kernel
theorem dX2_stands_12 : decode cX2_stands 12 = .ok (.ireturn, 1) := by decide +kernel
theorem dX2_hasInn_0 : decode cX2_hasInn 0 = .ok (.iload_n 1, 1) := by decide +kernel
theorem dX2_hasInn_1 : decode cX2_hasInn 1 = .ok (.ifCond .lt 15, 3) := by decide +kernel
theorem dX2_hasInn_4 : decode cX2_hasInn 4 = .ok (.iload_n 1, 1) := by decide +kernel
theorem dX2_hasInn_5 : decode cX2_hasInn 5 = .ok (.aload_n 0, 1) := by decide +kernel
theorem dX2_hasInn_6 : decode cX2_hasInn 6 = .ok (.getfield 9, 3) := by decide +kernel
theorem dX2_hasInn_9 : decode cX2_hasInn 9 = .ok (.if_icmp .ge 7, 3) := by decide +kernel
theorem dX2_hasInn_12 : decode cX2_hasInn 12 = .ok (.iconst 1, 1) := by decide +kernel
theorem dX2_hasInn_13 : decode cX2_hasInn 13 = .ok (.goto 4, 3) := by decide +kernel
theorem dX2_hasInn_16 : decode cX2_hasInn 16 = .ok (.iconst 0, 1) := by decide +kernel
theorem dX2_hasInn_17 : decode cX2_hasInn 17 = .ok (.ireturn, 1) := by decide +kernel
theorem dX2_hasInnOrRoad_0 : decode cX2_hasInnOrRoad 0 = .ok (.aload_n 0, 1) := by decide +kernel
theorem dX2_hasInnOrRoad_1 : decode cX2_hasInnOrRoad 1 = .ok (.invokevirtual 52, 3) := by decide +kernel
theorem dX2_hasInnOrRoad_4 : decode cX2_hasInnOrRoad 4 = .ok (.ifCond .eq 19, 3) := by decide +kernel
theorem dX2_hasInnOrRoad_7 : decode cX2_hasInnOrRoad 7 = .ok (.iload_n 1, 1) := by decide +kernel
theorem dX2_hasInnOrRoad_8 : decode cX2_hasInnOrRoad 8 = .ok (.ifCond .lt 15, 3) := by decide +kernel
theorem dX2_hasInnOrRoad_11 : decode cX2_hasInnOrRoad 11 = .ok (.iload_n 1, 1) := by decide +kernel
theorem dX2_hasInnOrRoad_12 : decode cX2_hasInnOrRoad 12 = .ok (.aload_n 0, 1) := by decide +kernel
theorem dX2_hasInnOrRoad_13 : decode cX2_hasInnOrRoad 13 = .ok (.getfield 9, 3) := by decide +kernel
theorem dX2_hasInnOrRoad_16 : decode cX2_hasInnOrRoad 16 = .ok (.if_icmp .gt 7, 3) := by decide +kernel
theorem dX2_hasInnOrRoad_19 : decode cX2_hasInnOrRoad 19 = .ok (.iconst 1, 1) := by decide +kernel
theorem dX2_hasInnOrRoad_20 : decode cX2_hasInnOrRoad 20 = .ok (.goto 4, 3) := by decide +kernel
theorem dX2_hasInnOrRoad_23 : decode cX2_hasInnOrRoad 23 = .ok (.iconst 0, 1) := by decide +kernel
theorem dX2_hasInnOrRoad_24 : decode cX2_hasInnOrRoad 24 = .ok (.ireturn, 1) := by decide +kernel
theorem dX2_hasGuest_0 : decode cX2_hasGuest 0 = .ok (.iload_n 1, 1) := by decide +kernel
theorem dX2_hasGuest_1 : decode cX2_hasGuest 1 = .ok (.ifCond .lt 15, 3) := by decide +kernel
theorem dX2_hasGuest_4 : decode cX2_hasGuest 4 = .ok (.iload_n 1, 1) := by decide +kernel
theorem dX2_hasGuest_5 : decode cX2_hasGuest 5 = .ok (.aload_n 0, 1) := by decide +kernel
theorem dX2_hasGuest_6 : decode cX2_hasGuest 6 = .ok (.getfield 31, 3) := by decide +kernel
theorem dX2_hasGuest_9 : decode cX2_hasGuest 9 = .ok (.if_icmp .ge 7, 3) := by decide +kernel
theorem dX2_hasGuest_12 : decode cX2_hasGuest 12 = .ok (.iconst 1, 1) := by decide +kernel
theorem dX2_hasGuest_13 : decode cX2_hasGuest 13 = .ok (.goto 4, 3) := by decide +kernel
theorem dX2_hasGuest_16 : decode cX2_hasGuest 16 = .ok (.iconst 0, 1) := by decide +kernel
theorem dX2_hasGuest_17 : decode cX2_hasGuest 17 = .ok (.ireturn, 1) := by decide +kernel
theorem dX2_hasNight_0 : decode cX2_hasNight 0 = .ok (.iload_n 1, 1) := by decide +kernel
theorem dX2_hasNight_1 : decode cX2_hasNight 1 = .ok (.ifCond .lt 15, 3) := by decide +kernel
theorem dX2_hasNight_4 : decode cX2_hasNight 4 = .ok (.iload_n 1, 1) := by decide +kernel
theorem dX2_hasNight_5 : decode cX2_hasNight 5 = .ok (.aload_n 0, 1) := by decide +kernel
theorem dX2_hasNight_6 : decode cX2_hasNight 6 = .ok (.getfield 22, 3) := by decide +kernel
theorem dX2_hasNight_9 : decode cX2_hasNight 9 = .ok (.if_icmp .ge 7, 3) := by decide +kernel
theorem dX2_hasNight_12 : decode cX2_hasNight 12 = .ok (.iconst 1, 1) := by decide +kernel
theorem dX2_hasNight_13 : decode cX2_hasNight 13 = .ok (.goto 4, 3) := by decide +kernel
theorem dX2_hasNight_16 : decode cX2_hasNight 16 = .ok (.iconst 0, 1) := by decide +kernel
theorem dX2_hasNight_17 : decode cX2_hasNight 17 = .ok (.ireturn, 1) := by decide +kernel
theorem dX2_countsNights_0 : decode cX2_countsNights 0 = .ok (.iload_n 1, 1) := by decide +kernel
theorem dX2_countsNights_1 : decode cX2_countsNights 1 = .ok (.ifCond .lt 15, 3) := by decide +kernel
theorem dX2_countsNights_4 : decode cX2_countsNights 4 = .ok (.iload_n 1, 1) := by decide +kernel
theorem dX2_countsNights_5 : decode cX2_countsNights 5 = .ok (.aload_n 0, 1) := by decide +kernel
theorem dX2_countsNights_6 : decode cX2_countsNights 6 = .ok (.getfield 22, 3) := by decide +kernel
theorem dX2_countsNights_9 : decode cX2_countsNights 9 = .ok (.if_icmp .gt 7, 3) := by decide +kernel
theorem dX2_countsNights_12 : decode cX2_countsNights 12 = .ok (.iconst 1, 1) := by decide +kernel
theorem dX2_countsNights_13 : decode cX2_countsNights 13 = .ok (.goto 4, 3) := by decide +kernel
theorem dX2_countsNights_16 : decode cX2_countsNights 16 = .ok (.iconst 0, 1) := by decide +kernel
theorem dX2_countsNights_17 : decode cX2_countsNights 17 = .ok (.ireturn, 1) := by decide +kernel
theorem dX2_membersOf_0 : decode cX2_membersOf 0 = .ok (.iconst 0, 1) := by decide +kernel
theorem dX2_membersOf_1 : decode cX2_membersOf 1 = .ok (.istore_n 2, 1) := by decide +kernel
theorem dX2_membersOf_2 : decode cX2_membersOf 2 = .ok (.iconst 0, 1) := by decide +kernel
theorem dX2_membersOf_3 : decode cX2_membersOf 3 = .ok (.istore_n 3, 1) := by decide +kernel
theorem dX2_membersOf_4 : decode cX2_membersOf 4 = .ok (.iload_n 3, 1) := by decide +kernel
theorem dX2_membersOf_5 : decode cX2_membersOf 5 = .ok (.aload_n 0, 1) := by decide +kernel
theorem dX2_membersOf_6 : decode cX2_membersOf 6 = .ok (.getfield 31, 3) := by decide +kernel
theorem dX2_membersOf_9 : decode cX2_membersOf 9 = .ok (.if_icmp .ge 25, 3) := by decide +kernel
theorem dX2_membersOf_12 : decode cX2_membersOf 12 = .ok (.aload_n 0, 1) := by decide +kernel
theorem dX2_membersOf_13 : decode cX2_membersOf 13 = .ok (.getfield 34, 3) := by decide +kernel
theorem dX2_membersOf_16 : decode cX2_membersOf 16 = .ok (.iload_n 3, 1) := by decide +kernel
theorem dX2_membersOf_17 : decode cX2_membersOf 17 = .ok (.iaload, 1) := by decide +kernel
theorem dX2_membersOf_18 : decode cX2_membersOf 18 = .ok (.iload_n 1, 1) := by decide +kernel
theorem dX2_membersOf_19 : decode cX2_membersOf 19 = .ok (.if_icmp .ne 9, 3) := by decide +kernel
theorem dX2_membersOf_22 : decode cX2_membersOf 22 = .ok (.iload_n 2, 1) := by decide +kernel
theorem dX2_membersOf_23 : decode cX2_membersOf 23 = .ok (.iconst 1, 1) := by decide +kernel
theorem dX2_membersOf_24 : decode cX2_membersOf 24 = .ok (.iload_n 3, 1) := by decide +kernel
theorem dX2_membersOf_25 : decode cX2_membersOf 25 = .ok (.ishl, 1) := by decide +kernel
theorem dX2_membersOf_26 : decode cX2_membersOf 26 = .ok (.ior, 1) := by decide +kernel
theorem dX2_membersOf_27 : decode cX2_membersOf 27 = .ok (.istore_n 2, 1) := by decide +kernel
theorem dX2_membersOf_28 : decode cX2_membersOf 28 = .ok (.iinc 3 1, 3) := by decide +kernel
theorem dX2_membersOf_31 : decode cX2_membersOf 31 = .ok (.goto (-27), 3) := by decide +kernel
theorem dX2_membersOf_34 : decode cX2_membersOf 34 = .ok (.iload_n 2, 1) := by decide +kernel
theorem dX2_membersOf_35 : decode cX2_membersOf 35 = .ok (.ireturn, 1) := by decide +kernel
theorem dX2_keepsBy_0 : decode cX2_keepsBy 0 = .ok (.aload_n 0, 1) := by decide +kernel
theorem dX2_keepsBy_1 : decode cX2_keepsBy 1 = .ok (.getfield 15, 3) := by decide +kernel
end
section
theorem dX2_keepsBy_4 : decode cX2_keepsBy 4 = .ok (.iload_n 1, 1) := by decide +kernel
theorem dX2_keepsBy_5 : decode cX2_keepsBy 5 = .ok (.iaload, 1) := by decide +kernel
theorem dX2_keepsBy_6 : decode cX2_keepsBy 6 = .ok (.lookupswitch 36 #[(1, 32), (2, 26)], 26) := by decide +kernel
theorem dX2_keepsBy_32 : decode cX2_keepsBy 32 = .ok (.iconst 2, 1) := by decide +kernel
theorem dX2_keepsBy_33 : decode cX2_keepsBy 33 = .ok (.iload_n 2, 1) := by decide +kernel
theorem dX2_keepsBy_34 : decode cX2_keepsBy 34 = .ok (.iconst 1, 1) := by decide +kernel
theorem dX2_keepsBy_35 : decode cX2_keepsBy 35 = .ok (.iadd, 1) := by decide +kernel
theorem dX2_keepsBy_36 : decode cX2_keepsBy 36 = .ok (.imul, 1) := by decide +kernel
theorem dX2_keepsBy_37 : decode cX2_keepsBy 37 = .ok (.ireturn, 1) := by decide +kernel
theorem dX2_keepsBy_38 : decode cX2_keepsBy 38 = .ok (.iload_n 2, 1) := by decide +kernel
theorem dX2_keepsBy_39 : decode cX2_keepsBy 39 = .ok (.iconst 1, 1) := by decide +kernel
theorem dX2_keepsBy_40 : decode cX2_keepsBy 40 = .ok (.iadd, 1) := by decide +kernel
theorem dX2_keepsBy_41 : decode cX2_keepsBy 41 = .ok (.ireturn, 1) := by decide +kernel
theorem dX2_keepsBy_42 : decode cX2_keepsBy 42 = .ok (.iload_n 2, 1) := by decide +kernel
theorem dX2_keepsBy_43 : decode cX2_keepsBy 43 = .ok (.ireturn, 1) := by decide +kernel
theorem dX2_roomBy_0 : decode cX2_roomBy 0 = .ok (.aload_n 0, 1) := by decide +kernel
theorem dX2_roomBy_1 : decode cX2_roomBy 1 = .ok (.iload_n 1, 1) := by decide +kernel
theorem dX2_roomBy_2 : decode cX2_roomBy 2 = .ok (.iload_n 2, 1) := by decide +kernel
theorem dX2_roomBy_3 : decode cX2_roomBy 3 = .ok (.invokevirtual 56, 3) := by decide +kernel
theorem dX2_roomBy_6 : decode cX2_roomBy 6 = .ok (.istore_n 3, 1) := by decide +kernel
theorem dX2_roomBy_7 : decode cX2_roomBy 7 = .ok (.iload_n 1, 1) := by decide +kernel
theorem dX2_roomBy_8 : decode cX2_roomBy 8 = .ok (.aload_n 0, 1) := by decide +kernel
theorem dX2_roomBy_9 : decode cX2_roomBy 9 = .ok (.getfield 43, 3) := by decide +kernel
theorem dX2_roomBy_12 : decode cX2_roomBy 12 = .ok (.if_icmp .ne 9, 3) := by decide +kernel
theorem dX2_roomBy_15 : decode cX2_roomBy 15 = .ok (.iload_n 3, 1) := by decide +kernel
theorem dX2_roomBy_16 : decode cX2_roomBy 16 = .ok (.iconst 1, 1) := by decide +kernel
theorem dX2_roomBy_17 : decode cX2_roomBy 17 = .ok (.iadd, 1) := by decide +kernel
theorem dX2_roomBy_18 : decode cX2_roomBy 18 = .ok (.goto 4, 3) := by decide +kernel
theorem dX2_roomBy_21 : decode cX2_roomBy 21 = .ok (.iload_n 3, 1) := by decide +kernel
theorem dX2_roomBy_22 : decode cX2_roomBy 22 = .ok (.ireturn, 1) := by decide +kernel
theorem dX2_sweepOver_0 : decode cX2_sweepOver 0 = .ok (.iload_n 3, 1) := by decide +kernel
theorem dX2_sweepOver_1 : decode cX2_sweepOver 1 = .ok (.aload_n 0, 1) := by decide +kernel
theorem dX2_sweepOver_2 : decode cX2_sweepOver 2 = .ok (.getfield 19, 3) := by decide +kernel
theorem dX2_sweepOver_5 : decode cX2_sweepOver 5 = .ok (.iload_n 1, 1) := by decide +kernel
theorem dX2_sweepOver_6 : decode cX2_sweepOver 6 = .ok (.iaload, 1) := by decide +kernel
theorem dX2_sweepOver_7 : decode cX2_sweepOver 7 = .ok (.invokestatic 60, 3) := by decide +kernel
theorem dX2_sweepOver_10 : decode cX2_sweepOver 10 = .ok (.istore 4, 2) := by decide +kernel
theorem dX2_sweepOver_12 : decode cX2_sweepOver 12 = .ok (.iload 4, 2) := by decide +kernel
theorem dX2_sweepOver_14 : decode cX2_sweepOver 14 = .ok (.bipush 9, 2) := by decide +kernel
theorem dX2_sweepOver_16 : decode cX2_sweepOver 16 = .ok (.aload_n 0, 1) := by decide +kernel
theorem dX2_sweepOver_17 : decode cX2_sweepOver 17 = .ok (.getfield 19, 3) := by decide +kernel
theorem dX2_sweepOver_20 : decode cX2_sweepOver 20 = .ok (.iload_n 2, 1) := by decide +kernel
theorem dX2_sweepOver_21 : decode cX2_sweepOver 21 = .ok (.iaload, 1) := by decide +kernel
theorem dX2_sweepOver_22 : decode cX2_sweepOver 22 = .ok (.isub, 1) := by decide +kernel
theorem dX2_sweepOver_23 : decode cX2_sweepOver 23 = .ok (.invokestatic 60, 3) := by decide +kernel
theorem dX2_sweepOver_26 : decode cX2_sweepOver 26 = .ok (.istore 5, 2) := by decide +kernel
theorem dX2_sweepOver_28 : decode cX2_sweepOver 28 = .ok (.aload_n 0, 1) := by decide +kernel
theorem dX2_sweepOver_29 : decode cX2_sweepOver 29 = .ok (.getfield 19, 3) := by decide +kernel
theorem dX2_sweepOver_32 : decode cX2_sweepOver 32 = .ok (.iload_n 1, 1) := by decide +kernel
theorem dX2_sweepOver_33 : decode cX2_sweepOver 33 = .ok (.dup2, 1) := by decide +kernel
theorem dX2_sweepOver_34 : decode cX2_sweepOver 34 = .ok (.iaload, 1) := by decide +kernel
theorem dX2_sweepOver_35 : decode cX2_sweepOver 35 = .ok (.iload 4, 2) := by decide +kernel
theorem dX2_sweepOver_37 : decode cX2_sweepOver 37 = .ok (.isub, 1) := by decide +kernel
theorem dX2_sweepOver_38 : decode cX2_sweepOver 38 = .ok (.iastore, 1) := by decide +kernel
theorem dX2_sweepOver_39 : decode cX2_sweepOver 39 = .ok (.aload_n 0, 1) := by decide +kernel
theorem dX2_sweepOver_40 : decode cX2_sweepOver 40 = .ok (.getfield 19, 3) := by decide +kernel
theorem dX2_sweepOver_43 : decode cX2_sweepOver 43 = .ok (.iload_n 2, 1) := by decide +kernel
theorem dX2_sweepOver_44 : decode cX2_sweepOver 44 = .ok (.dup2, 1) := by decide +kernel
theorem dX2_sweepOver_45 : decode cX2_sweepOver 45 = .ok (.iaload, 1) := by decide +kernel
theorem dX2_sweepOver_46 : decode cX2_sweepOver 46 = .ok (.iload 5, 2) := by decide +kernel
theorem dX2_sweepOver_48 : decode cX2_sweepOver 48 = .ok (.iadd, 1) := by decide +kernel
theorem dX2_sweepOver_49 : decode cX2_sweepOver 49 = .ok (.iastore, 1) := by decide +kernel
theorem dX2_sweepOver_50 : decode cX2_sweepOver 50 = .ok (.iload 5, 2) := by decide +kernel
theorem dX2_sweepOver_52 : decode cX2_sweepOver 52 = .ok (.ireturn, 1) := by decide +kernel
theorem dX3_init_0 : decode cX3_init 0 = .ok (.aload_n 0, 1) := by decide +kernel
theorem dX3_init_1 : decode cX3_init 1 = .ok (.invokespecial 3, 3) := by decide +kernel
theorem dX3_init_4 : decode cX3_init 4 = .ok (.aload_n 0, 1) := by decide +kernel
theorem dX3_init_5 : decode cX3_init 5 = .ok (.bipush 60, 2) := by decide +kernel
theorem dX3_init_7 : decode cX3_init 7 = .ok (.newarray .int, 2) := by decide +kernel
theorem dX3_init_9 : decode cX3_init 9 = .ok (.putfield 9, 3) := by decide +kernel
theorem dX3_init_12 : decode cX3_init 12 = .ok (.aload_n 0, 1) := by decide +kernel
theorem dX3_init_13 : decode cX3_init 13 = .ok (.iconst (-1), 1) := by decide +kernel
theorem dX3_init_14 : decode cX3_init 14 = .ok (.putfield 15, 3) := by decide +kernel
theorem dX3_init_17 : decode cX3_init 17 = .ok (.aload_n 0, 1) := by decide +kernel
theorem dX3_init_18 : decode cX3_init 18 = .ok (.iconst 0, 1) := by decide +kernel
theorem dX3_init_19 : decode cX3_init 19 = .ok (.putfield 19, 3) := by decide +kernel
theorem dX3_init_22 : decode cX3_init 22 = .ok (.return_, 1) := by decide +kernel
theorem dX3_renew_0 : decode cX3_renew 0 = .ok (.aload_n 0, 1) := by decide +kernel
theorem dX3_renew_1 : decode cX3_renew 1 = .ok (.iload_n 1, 1) := by decide +kernel
theorem dX3_renew_2 : decode cX3_renew 2 = .ok (.putfield 15, 3) := by decide +kernel
theorem dX3_renew_5 : decode cX3_renew 5 = .ok (.aload_n 0, 1) := by decide +kernel
theorem dX3_renew_6 : decode cX3_renew 6 = .ok (.iload_n 2, 1) := by decide +kernel
theorem dX3_renew_7 : decode cX3_renew 7 = .ok (.putfield 19, 3) := by decide +kernel
theorem dX3_renew_10 : decode cX3_renew 10 = .ok (.iconst 0, 1) := by decide +kernel
theorem dX3_renew_11 : decode cX3_renew 11 = .ok (.istore_n 3, 1) := by decide +kernel
theorem dX3_renew_12 : decode cX3_renew 12 = .ok (.iload_n 3, 1) := by decide +kernel
theorem dX3_renew_13 : decode cX3_renew 13 = .ok (.bipush 60, 2) := by decide +kernel
theorem dX3_renew_15 : decode cX3_renew 15 = .ok (.if_icmp .ge 16, 3) := by decide +kernel
theorem dX3_renew_18 : decode cX3_renew 18 = .ok (.aload_n 0, 1) := by decide +kernel
theorem dX3_renew_19 : decode cX3_renew 19 = .ok (.getfield 9, 3) := by decide +kernel
theorem dX3_renew_22 : decode cX3_renew 22 = .ok (.iload_n 3, 1) := by decide +kernel
theorem dX3_renew_23 : decode cX3_renew 23 = .ok (.iconst 0, 1) := by decide +kernel
theorem dX3_renew_24 : decode cX3_renew 24 = .ok (.iastore, 1) := by decide +kernel
theorem dX3_renew_25 : decode cX3_renew 25 = .ok (.iinc 3 1, 3) := by decide +kernel
theorem dX3_renew_28 : decode cX3_renew 28 = .ok (.goto (-16), 3) := by decide +kernel
theorem dX3_renew_31 : decode cX3_renew 31 = .ok (.return_, 1) := by decide +kernel
theorem dX3_clear_0 : decode cX3_clear 0 = .ok (.aload_n 0, 1) := by decide +kernel
theorem dX3_clear_1 : decode cX3_clear 1 = .ok (.iconst (-1), 1) := by decide +kernel
theorem dX3_clear_2 : decode cX3_clear 2 = .ok (.putfield 15, 3) := by decide +kernel
theorem dX3_clear_5 : decode cX3_clear 5 = .ok (.aload_n 0, 1) := by decide +kernel
theorem dX3_clear_6 : decode cX3_clear 6 = .ok (.iconst 0, 1) := by decide +kernel
theorem dX3_clear_7 : decode cX3_clear 7 = .ok (.putfield 19, 3) := by decide +kernel
theorem dX3_clear_10 : decode cX3_clear 10 = .ok (.return_, 1) := by decide +kernel
theorem dX3_isThere_0 : decode cX3_isThere 0 = .ok (.aload_n 0, 1) := by decide +kernel
theorem dX3_isThere_1 : decode cX3_isThere 1 = .ok (.getfield 15, 3) := by decide +kernel
theorem dX3_isThere_4 : decode cX3_isThere 4 = .ok (.iconst (-1), 1) := by decide +kernel
theorem dX3_isThere_5 : decode cX3_isThere 5 = .ok (.if_icmp .eq 7, 3) := by decide +kernel
theorem dX3_isThere_8 : decode cX3_isThere 8 = .ok (.iconst 1, 1) := by decide +kernel
theorem dX3_isThere_9 : decode cX3_isThere 9 = .ok (.goto 4, 3) := by decide +kernel
theorem dX3_isThere_12 : decode cX3_isThere 12 = .ok (.iconst 0, 1) := by decide +kernel
theorem dX3_isThere_13 : decode cX3_isThere 13 = .ok (.ireturn, 1) := by decide +kernel
theorem dX3_hasCell_0 : decode cX3_hasCell 0 = .ok (.iload_n 1, 1) := by decide +kernel
theorem dX3_hasCell_1 : decode cX3_hasCell 1 = .ok (.ifCond .lt 15, 3) := by decide +kernel
theorem dX3_hasCell_4 : decode cX3_hasCell 4 = .ok (.iload_n 1, 1) := by decide +kernel
theorem dX3_hasCell_5 : decode cX3_hasCell 5 = .ok (.aload_n 0, 1) := by decide +kernel
theorem dX3_hasCell_6 : decode cX3_hasCell 6 = .ok (.getfield 19, 3) := by decide +kernel
theorem dX3_hasCell_9 : decode cX3_hasCell 9 = .ok (.if_icmp .ge 7, 3) := by decide +kernel
theorem dX3_hasCell_12 : decode cX3_hasCell 12 = .ok (.iconst 1, 1) := by decide +kernel
theorem dX3_hasCell_13 : decode cX3_hasCell 13 = .ok (.goto 4, 3) := by decide +kernel
theorem dX3_hasCell_16 : decode cX3_hasCell 16 = .ok (.iconst 0, 1) := by decide +kernel
theorem dX3_hasCell_17 : decode cX3_hasCell 17 = .ok (.ireturn, 1) := by decide +kernel
theorem dX3_hasCells_0 : decode cX3_hasCells 0 = .ok (.iload_n 1, 1) := by decide +kernel
theorem dX3_hasCells_1 : decode cX3_hasCells 1 = .ok (.ifCond .lt 29, 3) := by decide +kernel
theorem dX3_hasCells_4 : decode cX3_hasCells 4 = .ok (.iload_n 1, 1) := by decide +kernel
theorem dX3_hasCells_5 : decode cX3_hasCells 5 = .ok (.aload_n 0, 1) := by decide +kernel
theorem dX3_hasCells_6 : decode cX3_hasCells 6 = .ok (.getfield 19, 3) := by decide +kernel
theorem dX3_hasCells_9 : decode cX3_hasCells 9 = .ok (.if_icmp .gt 21, 3) := by decide +kernel
theorem dX3_hasCells_12 : decode cX3_hasCells 12 = .ok (.iload_n 2, 1) := by decide +kernel
theorem dX3_hasCells_13 : decode cX3_hasCells 13 = .ok (.ifCond .lt 17, 3) := by decide +kernel
theorem dX3_hasCells_16 : decode cX3_hasCells 16 = .ok (.iload_n 2, 1) := by decide +kernel
theorem dX3_hasCells_17 : decode cX3_hasCells 17 = .ok (.aload_n 0, 1) := by decide +kernel
theorem dX3_hasCells_18 : decode cX3_hasCells 18 = .ok (.getfield 19, 3) := by decide +kernel
theorem dX3_hasCells_21 : decode cX3_hasCells 21 = .ok (.iload_n 1, 1) := by decide +kernel
theorem dX3_hasCells_22 : decode cX3_hasCells 22 = .ok (.isub, 1) := by decide +kernel
theorem dX3_hasCells_23 : decode cX3_hasCells 23 = .ok (.if_icmp .gt 7, 3) := by decide +kernel
theorem dX3_hasCells_26 : decode cX3_hasCells 26 = .ok (.iconst 1, 1) := by decide +kernel
theorem dX3_hasCells_27 : decode cX3_hasCells 27 = .ok (.goto 4, 3) := by decide +kernel
theorem dX3_hasCells_30 : decode cX3_hasCells 30 = .ok (.iconst 0, 1) := by decide +kernel
theorem dX3_hasCells_31 : decode cX3_hasCells 31 = .ok (.ireturn, 1) := by decide +kernel
theorem dX3_write_0 : decode cX3_write 0 = .ok (.aload_n 0, 1) := by decide +kernel
theorem dX3_write_1 : decode cX3_write 1 = .ok (.getfield 9, 3) := by decide +kernel
theorem dX3_write_4 : decode cX3_write 4 = .ok (.iload_n 1, 1) := by decide +kernel
theorem dX3_write_5 : decode cX3_write 5 = .ok (.aload_n 0, 1) := by decide +kernel
theorem dX3_write_6 : decode cX3_write 6 = .ok (.getfield 15, 3) := by decide +kernel
theorem dX3_write_9 : decode cX3_write 9 = .ok (.ifCond .ne 8, 3) := by decide +kernel
theorem dX3_write_12 : decode cX3_write 12 = .ok (.iload_n 2, 1) := by decide +kernel
theorem dX3_write_13 : decode cX3_write 13 = .ok (.i2b, 1) := by decide +kernel
theorem dX3_write_14 : decode cX3_write 14 = .ok (.goto 17, 3) := by decide +kernel
theorem dX3_write_17 : decode cX3_write 17 = .ok (.aload_n 0, 1) := by decide +kernel
theorem dX3_write_18 : decode cX3_write 18 = .ok (.getfield 15, 3) := by decide +kernel
theorem dX3_write_21 : decode cX3_write 21 = .ok (.iconst 1, 1) := by decide +kernel
theorem dX3_write_22 : decode cX3_write 22 = .ok (.if_icmp .ne 8, 3) := by decide +kernel
theorem dX3_write_25 : decode cX3_write 25 = .ok (.iload_n 2, 1) := by decide +kernel
theorem dX3_write_26 : decode cX3_write 26 = .ok (.i2s, 1) := by decide +kernel
theorem dX3_write_27 : decode cX3_write 27 = .ok (.goto 4, 3) := by decide +kernel
theorem dX3_write_30 : decode cX3_write 30 = .ok (.iload_n 2, 1) := by decide +kernel
theorem dX3_write_31 : decode cX3_write 31 = .ok (.iastore, 1) := by decide +kernel
theorem dX3_write_32 : decode cX3_write 32 = .ok (.return_, 1) := by decide +kernel
theorem dX3_faultOfCell_0 : decode cX3_faultOfCell 0 = .ok (.aload_n 0, 1) := by decide +kernel
theorem dX3_faultOfCell_1 : decode cX3_faultOfCell 1 = .ok (.iload_n 1, 1) := by decide +kernel
theorem dX3_faultOfCell_2 : decode cX3_faultOfCell 2 = .ok (.invokevirtual 22, 3) := by decide +kernel
theorem dX3_faultOfCell_5 : decode cX3_faultOfCell 5 = .ok (.istore_n 3, 1) := by decide +kernel
theorem dX3_faultOfCell_6 : decode cX3_faultOfCell 6 = .ok (.iload_n 3, 1) := by decide +kernel
theorem dX3_faultOfCell_7 : decode cX3_faultOfCell 7 = .ok (.ifCond .eq 5, 3) := by decide +kernel
theorem dX3_faultOfCell_10 : decode cX3_faultOfCell 10 = .ok (.iload_n 3, 1) := by decide +kernel
theorem dX3_faultOfCell_11 : decode cX3_faultOfCell 11 = .ok (.ireturn, 1) := by decide +kernel
theorem dX3_faultOfCell_12 : decode cX3_faultOfCell 12 = .ok (.aload_n 0, 1) := by decide +kernel
theorem dX3_faultOfCell_13 : decode cX3_faultOfCell 13 = .ok (.iload_n 2, 1) := by decide +kernel
theorem dX3_faultOfCell_14 : decode cX3_faultOfCell 14 = .ok (.invokevirtual 26, 3) := by decide +kernel
theorem dX3_faultOfCell_17 : decode cX3_faultOfCell 17 = .ok (.ifCond .eq 7, 3) := by decide +kernel
theorem dX3_faultOfCell_20 : decode cX3_faultOfCell 20 = .ok (.iconst 0, 1) := by decide +kernel
theorem dX3_faultOfCell_21 : decode cX3_faultOfCell 21 = .ok (.goto 4, 3) := by decide +kernel
theorem dX3_faultOfCell_24 : decode cX3_faultOfCell 24 = .ok (.iconst 3, 1) := by decide +kernel
theorem dX3_faultOfCell_25 : decode cX3_faultOfCell 25 = .ok (.ireturn, 1) := by decide +kernel
theorem dX3_faultOfRow_0 : decode cX3_faultOfRow 0 = .ok (.aload_n 0, 1) := by decide +kernel
theorem dX3_faultOfRow_1 : decode cX3_faultOfRow 1 = .ok (.iload_n 1, 1) := by decide +kernel
theorem dX3_faultOfRow_2 : decode cX3_faultOfRow 2 = .ok (.invokevirtual 22, 3) := by decide +kernel
theorem dX3_faultOfRow_5 : decode cX3_faultOfRow 5 = .ok (.istore 4, 2) := by decide +kernel
theorem dX3_faultOfRow_7 : decode cX3_faultOfRow 7 = .ok (.iload 4, 2) := by decide +kernel
theorem dX3_faultOfRow_9 : decode cX3_faultOfRow 9 = .ok (.ifCond .eq 6, 3) := by decide +kernel
theorem dX3_faultOfRow_12 : decode cX3_faultOfRow 12 = .ok (.iload 4, 2) := by decide +kernel
theorem dX3_faultOfRow_14 : decode cX3_faultOfRow 14 = .ok (.ireturn, 1) := by decide +kernel
theorem dX3_faultOfRow_15 : decode cX3_faultOfRow 15 = .ok (.iload_n 3, 1) := by decide +kernel
theorem dX3_faultOfRow_16 : decode cX3_faultOfRow 16 = .ok (.ifCond .ge 5, 3) := by decide +kernel
theorem dX3_faultOfRow_19 : decode cX3_faultOfRow 19 = .ok (.iconst 4, 1) := by decide +kernel
theorem dX3_faultOfRow_20 : decode cX3_faultOfRow 20 = .ok (.ireturn, 1) := by decide +kernel
theorem dX3_faultOfRow_21 : decode cX3_faultOfRow 21 = .ok (.aload_n 0, 1) := by decide +kernel
theorem dX3_faultOfRow_22 : decode cX3_faultOfRow 22 = .ok (.iload_n 2, 1) := by decide +kernel
theorem dX3_faultOfRow_23 : decode cX3_faultOfRow 23 = .ok (.iload_n 3, 1) := by decide +kernel
theorem dX3_faultOfRow_24 : decode cX3_faultOfRow 24 = .ok (.invokevirtual 30, 3) := by decide +kernel
theorem dX3_faultOfRow_27 : decode cX3_faultOfRow 27 = .ok (.ifCond .eq 7, 3) := by decide +kernel
theorem dX3_faultOfRow_30 : decode cX3_faultOfRow 30 = .ok (.iconst 0, 1) := by decide +kernel
theorem dX3_faultOfRow_31 : decode cX3_faultOfRow 31 = .ok (.goto 4, 3) := by decide +kernel
theorem dX3_faultOfRow_34 : decode cX3_faultOfRow 34 = .ok (.iconst 3, 1) := by decide +kernel
theorem dX3_faultOfRow_35 : decode cX3_faultOfRow 35 = .ok (.ireturn, 1) := by decide +kernel
theorem dX3_faultOfLane_0 : decode cX3_faultOfLane 0 = .ok (.aload_n 0, 1) := by decide +kernel
theorem dX3_faultOfLane_1 : decode cX3_faultOfLane 1 = .ok (.invokevirtual 34, 3) := by decide +kernel
theorem dX3_faultOfLane_4 : decode cX3_faultOfLane 4 = .ok (.ifCond .ne 5, 3) := by decide +kernel
theorem dX3_faultOfLane_7 : decode cX3_faultOfLane 7 = .ok (.iconst 1, 1) := by decide +kernel
theorem dX3_faultOfLane_8 : decode cX3_faultOfLane 8 = .ok (.ireturn, 1) := by decide +kernel
theorem dX3_faultOfLane_9 : decode cX3_faultOfLane 9 = .ok (.aload_n 0, 1) := by decide +kernel
theorem dX3_faultOfLane_10 : decode cX3_faultOfLane 10 = .ok (.getfield 15, 3) := by decide +kernel
theorem dX3_faultOfLane_13 : decode cX3_faultOfLane 13 = .ok (.iload_n 1, 1) := by decide +kernel
theorem dX3_faultOfLane_14 : decode cX3_faultOfLane 14 = .ok (.if_icmp .ne 7, 3) := by decide +kernel
theorem dX3_faultOfLane_17 : decode cX3_faultOfLane 17 = .ok (.iconst 0, 1) := by decide +kernel
theorem dX3_faultOfLane_18 : decode cX3_faultOfLane 18 = .ok (.goto 4, 3) := by decide +kernel
theorem dX3_faultOfLane_21 : decode cX3_faultOfLane 21 = .ok (.iconst 2, 1) := by decide +kernel
theorem dX3_faultOfLane_22 : decode cX3_faultOfLane 22 = .ok (.ireturn, 1) := by decide +kernel
theorem dX4_init_0 : decode cX4_init 0 = .ok (.aload_n 0, 1) := by decide +kernel
theorem dX4_init_1 : decode cX4_init 1 = .ok (.invokespecial 3, 3) := by decide +kernel
theorem dX4_init_4 : decode cX4_init 4 = .ok (.aload_n 0, 1) := by decide +kernel
theorem dX4_init_5 : decode cX4_init 5 = .ok (.iconst 0, 1) := by decide +kernel
theorem dX4_init_6 : decode cX4_init 6 = .ok (.putfield 9, 3) := by decide +kernel
theorem dX4_init_9 : decode cX4_init 9 = .ok (.aload_n 0, 1) := by decide +kernel
theorem dX4_init_10 : decode cX4_init 10 = .ok (.aload_n 1, 1) := by decide +kernel
theorem dX4_init_11 : decode cX4_init 11 = .ok (.getfield 15, 3) := by decide +kernel
theorem dX4_init_14 : decode cX4_init 14 = .ok (.putfield 21, 3) := by decide +kernel
theorem dX4_init_17 : decode cX4_init 17 = .ok (.aload_n 0, 1) := by decide +kernel
theorem dX4_init_18 : decode cX4_init 18 = .ok (.iload_n 2, 1) := by decide +kernel
theorem dX4_init_19 : decode cX4_init 19 = .ok (.putfield 24, 3) := by decide +kernel
theorem dX4_init_22 : decode cX4_init 22 = .ok (.aload_n 0, 1) := by decide +kernel
theorem dX4_init_23 : decode cX4_init 23 = .ok (.iload_n 3, 1) := by decide +kernel
theorem dX4_init_24 : decode cX4_init 24 = .ok (.putfield 27, 3) := by decide +kernel
theorem dX4_init_27 : decode cX4_init 27 = .ok (.return_, 1) := by decide +kernel
theorem dX4_place_0 : decode cX4_place 0 = .ok (.aload_n 0, 1) := by decide +kernel
theorem dX4_place_1 : decode cX4_place 1 = .ok (.getfield 9, 3) := by decide +kernel
theorem dX4_place_4 : decode cX4_place 4 = .ok (.ireturn, 1) := by decide +kernel
theorem dX4_readInto_0 : decode cX4_readInto 0 = .ok (.aload_n 1, 1) := by decide +kernel
theorem dX4_readInto_1 : decode cX4_readInto 1 = .ok (.invokevirtual 30, 3) := by decide +kernel
theorem dX4_readInto_4 : decode cX4_readInto 4 = .ok (.aload_n 0, 1) := by decide +kernel
theorem dX4_readInto_5 : decode cX4_readInto 5 = .ok (.bipush 105, 2) := by decide +kernel
theorem dX4_readInto_7 : decode cX4_readInto 7 = .ok (.invokevirtual 35, 3) := by decide +kernel
theorem dX4_readInto_10 : decode cX4_readInto 10 = .ok (.ifCond .eq 51, 3) := by decide +kernel
theorem dX4_readInto_13 : decode cX4_readInto 13 = .ok (.aload_n 0, 1) := by decide +kernel
theorem dX4_readInto_14 : decode cX4_readInto 14 = .ok (.aload_n 1, 1) := by decide +kernel
theorem dX4_readInto_15 : decode cX4_readInto 15 = .ok (.invokevirtual 39, 3) := by decide +kernel
theorem dX4_readInto_18 : decode cX4_readInto 18 = .ok (.ifCond .eq 43, 3) := by decide +kernel
theorem dX4_readInto_21 : decode cX4_readInto 21 = .ok (.aload_n 0, 1) := by decide +kernel
theorem dX4_readInto_22 : decode cX4_readInto 22 = .ok (.bipush 59, 2) := by decide +kernel
theorem dX4_readInto_24 : decode cX4_readInto 24 = .ok (.invokevirtual 35, 3) := by decide +kernel
theorem dX4_readInto_27 : decode cX4_readInto 27 = .ok (.ifCond .eq 34, 3) := by decide +kernel
theorem dX4_readInto_30 : decode cX4_readInto 30 = .ok (.aload_n 0, 1) := by decide +kernel
theorem dX4_readInto_31 : decode cX4_readInto 31 = .ok (.aload_n 1, 1) := by decide +kernel
theorem dX4_readInto_32 : decode cX4_readInto 32 = .ok (.invokevirtual 43, 3) := by decide +kernel
theorem dX4_readInto_35 : decode cX4_readInto 35 = .ok (.ifCond .eq 26, 3) := by decide +kernel
theorem dX4_readInto_38 : decode cX4_readInto 38 = .ok (.aload_n 0, 1) := by decide +kernel
theorem dX4_readInto_39 : decode cX4_readInto 39 = .ok (.aload_n 1, 1) := by decide +kernel
theorem dX4_readInto_40 : decode cX4_readInto 40 = .ok (.invokevirtual 46, 3) := by decide +kernel
theorem dX4_readInto_43 : decode cX4_readInto 43 = .ok (.ifCond .eq 18, 3) := by decide +kernel
theorem dX4_readInto_46 : decode cX4_readInto 46 = .ok (.aload_n 0, 1) := by decide +kernel
theorem dX4_readInto_47 : decode cX4_readInto 47 = .ok (.getfield 9, 3) := by decide +kernel
theorem dX4_readInto_50 : decode cX4_readInto 50 = .ok (.aload_n 0, 1) := by decide +kernel
theorem dX4_readInto_51 : decode cX4_readInto 51 = .ok (.getfield 27, 3) := by decide +kernel
theorem dX4_readInto_54 : decode cX4_readInto 54 = .ok (.if_icmp .ne 7, 3) := by decide +kernel
theorem dX4_readInto_57 : decode cX4_readInto 57 = .ok (.iconst 1, 1) := by decide +kernel
theorem dX4_readInto_58 : decode cX4_readInto 58 = .ok (.goto 4, 3) := by decide +kernel
theorem dX4_readInto_61 : decode cX4_readInto 61 = .ok (.iconst 0, 1) := by decide +kernel
theorem dX4_readInto_62 : decode cX4_readInto 62 = .ok (.ireturn, 1) := by decide +kernel
theorem dX4_readInns_0 : decode cX4_readInns 0 = .ok (.aload_n 1, 1) := by decide +kernel
theorem dX4_readInns_1 : decode cX4_readInns 1 = .ok (.getfield 49, 3) := by decide +kernel
theorem dX4_readInns_4 : decode cX4_readInns 4 = .ok (.bipush 6, 2) := by decide +kernel
theorem dX4_readInns_6 : decode cX4_readInns 6 = .ok (.if_icmp .ge 70, 3) := by decide +kernel
theorem dX4_readInns_9 : decode cX4_readInns 9 = .ok (.aload_n 0, 1) := by decide +kernel
theorem dX4_readInns_10 : decode cX4_readInns 10 = .ok (.bipush 44, 2) := by decide +kernel
theorem dX4_readInns_12 : decode cX4_readInns 12 = .ok (.invokevirtual 35, 3) := by decide +kernel
theorem dX4_readInns_15 : decode cX4_readInns 15 = .ok (.ifCond .eq 61, 3) := by decide +kernel
theorem dX4_readInns_18 : decode cX4_readInns 18 = .ok (.aload_n 0, 1) := by decide +kernel
theorem dX4_readInns_19 : decode cX4_readInns 19 = .ok (.invokevirtual 52, 3) := by decide +kernel
theorem dX4_readInns_22 : decode cX4_readInns 22 = .ok (.istore_n 2, 1) := by decide +kernel
theorem dX4_readInns_23 : decode cX4_readInns 23 = .ok (.iload_n 2, 1) := by decide +kernel
theorem dX4_readInns_24 : decode cX4_readInns 24 = .ok (.ifCond .ge 5, 3) := by decide +kernel
theorem dX4_readInns_27 : decode cX4_readInns 27 = .ok (.iconst 0, 1) := by decide +kernel
theorem dX4_readInns_28 : decode cX4_readInns 28 = .ok (.ireturn, 1) := by decide +kernel
theorem dX4_readInns_29 : decode cX4_readInns 29 = .ok (.aload_n 0, 1) := by decide +kernel
theorem dX4_readInns_30 : decode cX4_readInns 30 = .ok (.bipush 9, 2) := by decide +kernel
theorem dX4_readInns_32 : decode cX4_readInns 32 = .ok (.invokevirtual 56, 3) := by decide +kernel
theorem dX4_readInns_35 : decode cX4_readInns 35 = .ok (.istore_n 3, 1) := by decide +kernel
theorem dX4_readInns_36 : decode cX4_readInns 36 = .ok (.iload_n 3, 1) := by decide +kernel
theorem dX4_readInns_37 : decode cX4_readInns 37 = .ok (.iconst (-1), 1) := by decide +kernel
theorem dX4_readInns_38 : decode cX4_readInns 38 = .ok (.if_icmp .ne 5, 3) := by decide +kernel
theorem dX4_readInns_41 : decode cX4_readInns 41 = .ok (.iconst 0, 1) := by decide +kernel
theorem dX4_readInns_42 : decode cX4_readInns 42 = .ok (.ireturn, 1) := by decide +kernel
theorem dX4_readInns_43 : decode cX4_readInns 43 = .ok (.aload_n 1, 1) := by decide +kernel
theorem dX4_readInns_44 : decode cX4_readInns 44 = .ok (.getfield 60, 3) := by decide +kernel
theorem dX4_readInns_47 : decode cX4_readInns 47 = .ok (.aload_n 1, 1) := by decide +kernel
theorem dX4_readInns_48 : decode cX4_readInns 48 = .ok (.getfield 49, 3) := by decide +kernel
theorem dX4_readInns_51 : decode cX4_readInns 51 = .ok (.iload_n 2, 1) := by decide +kernel
theorem dX4_readInns_52 : decode cX4_readInns 52 = .ok (.iastore, 1) := by decide +kernel
theorem dX4_readInns_53 : decode cX4_readInns 53 = .ok (.aload_n 1, 1) := by decide +kernel
theorem dX4_readInns_54 : decode cX4_readInns 54 = .ok (.getfield 63, 3) := by decide +kernel
theorem dX4_readInns_57 : decode cX4_readInns 57 = .ok (.aload_n 1, 1) := by decide +kernel
theorem dX4_readInns_58 : decode cX4_readInns 58 = .ok (.getfield 49, 3) := by decide +kernel
theorem dX4_readInns_61 : decode cX4_readInns 61 = .ok (.iload_n 3, 1) := by decide +kernel
theorem dX4_readInns_62 : decode cX4_readInns 62 = .ok (.iastore, 1) := by decide +kernel
theorem dX4_readInns_63 : decode cX4_readInns 63 = .ok (.aload_n 1, 1) := by decide +kernel
theorem dX4_readInns_64 : decode cX4_readInns 64 = .ok (.dup, 1) := by decide +kernel
theorem dX4_readInns_65 : decode cX4_readInns 65 = .ok (.getfield 49, 3) := by decide +kernel
theorem dX4_readInns_68 : decode cX4_readInns 68 = .ok (.iconst 1, 1) := by decide +kernel
theorem dX4_readInns_69 : decode cX4_readInns 69 = .ok (.iadd, 1) := by decide +kernel
theorem dX4_readInns_70 : decode cX4_readInns 70 = .ok (.putfield 49, 3) := by decide +kernel
theorem dX4_readInns_73 : decode cX4_readInns 73 = .ok (.goto (-73), 3) := by decide +kernel
theorem dX4_readInns_76 : decode cX4_readInns 76 = .ok (.aload_n 1, 1) := by decide +kernel
theorem dX4_readInns_77 : decode cX4_readInns 77 = .ok (.getfield 49, 3) := by decide +kernel
theorem dX4_readInns_80 : decode cX4_readInns 80 = .ok (.iconst 2, 1) := by decide +kernel
theorem dX4_readInns_81 : decode cX4_readInns 81 = .ok (.if_icmp .lt 7, 3) := by decide +kernel
theorem dX4_readInns_84 : decode cX4_readInns 84 = .ok (.iconst 1, 1) := by decide +kernel
theorem dX4_readInns_85 : decode cX4_readInns 85 = .ok (.goto 4, 3) := by decide +kernel
theorem dX4_readInns_88 : decode cX4_readInns 88 = .ok (.iconst 0, 1) := by decide +kernel
theorem dX4_readInns_89 : decode cX4_readInns 89 = .ok (.ireturn, 1) := by decide +kernel
theorem dX4_readNights_0 : decode cX4_readNights 0 = .ok (.aload_n 1, 1) := by decide +kernel
theorem dX4_readNights_1 : decode cX4_readNights 1 = .ok (.getfield 66, 3) := by decide +kernel
theorem dX4_readNights_4 : decode cX4_readNights 4 = .ok (.bipush 8, 2) := by decide +kernel
theorem dX4_readNights_6 : decode cX4_readNights 6 = .ok (.if_icmp .ge 87, 3) := by decide +kernel
theorem dX4_readNights_9 : decode cX4_readNights 9 = .ok (.aload_n 0, 1) := by decide +kernel
theorem dX4_readNights_10 : decode cX4_readNights 10 = .ok (.bipush 62, 2) := by decide +kernel
theorem dX4_readNights_12 : decode cX4_readNights 12 = .ok (.invokevirtual 35, 3) := by decide +kernel
theorem dX4_readNights_15 : decode cX4_readNights 15 = .ok (.ifCond .eq 7, 3) := by decide +kernel
theorem dX4_readNights_18 : decode cX4_readNights 18 = .ok (.iconst 0, 1) := by decide +kernel
theorem dX4_readNights_19 : decode cX4_readNights 19 = .ok (.goto 18, 3) := by decide +kernel
theorem dX4_readNights_22 : decode cX4_readNights 22 = .ok (.aload_n 0, 1) := by decide +kernel
theorem dX4_readNights_23 : decode cX4_readNights 23 = .ok (.bipush 60, 2) := by decide +kernel
theorem dX4_readNights_25 : decode cX4_readNights 25 = .ok (.invokevirtual 35, 3) := by decide +kernel
theorem dX4_readNights_28 : decode cX4_readNights 28 = .ok (.ifCond .eq 7, 3) := by decide +kernel
theorem dX4_readNights_31 : decode cX4_readNights 31 = .ok (.iconst 1, 1) := by decide +kernel
theorem dX4_readNights_32 : decode cX4_readNights 32 = .ok (.goto 5, 3) := by decide +kernel
theorem dX4_readNights_35 : decode cX4_readNights 35 = .ok (.bipush (-9), 2) := by decide +kernel
theorem dX4_readNights_37 : decode cX4_readNights 37 = .ok (.istore_n 2, 1) := by decide +kernel
theorem dX4_readNights_38 : decode cX4_readNights 38 = .ok (.iload_n 2, 1) := by decide +kernel
theorem dX4_readNights_39 : decode cX4_readNights 39 = .ok (.bipush (-9), 2) := by decide +kernel
theorem dX4_readNights_41 : decode cX4_readNights 41 = .ok (.if_icmp .ne 6, 3) := by decide +kernel
theorem dX4_readNights_44 : decode cX4_readNights 44 = .ok (.goto 49, 3) := by decide +kernel
theorem dX4_readNights_47 : decode cX4_readNights 47 = .ok (.aload_n 0, 1) := by decide +kernel
theorem dX4_readNights_48 : decode cX4_readNights 48 = .ok (.iconst 5, 1) := by decide +kernel
theorem dX4_readNights_49 : decode cX4_readNights 49 = .ok (.invokevirtual 56, 3) := by decide +kernel
theorem dX4_readNights_52 : decode cX4_readNights 52 = .ok (.istore_n 3, 1) := by decide +kernel
theorem dX4_readNights_53 : decode cX4_readNights 53 = .ok (.iload_n 3, 1) := by decide +kernel
theorem dX4_readNights_54 : decode cX4_readNights 54 = .ok (.iconst (-1), 1) := by decide +kernel
theorem dX4_readNights_55 : decode cX4_readNights 55 = .ok (.if_icmp .ne 5, 3) := by decide +kernel
theorem dX4_readNights_58 : decode cX4_readNights 58 = .ok (.iconst 0, 1) := by decide +kernel
theorem dX4_readNights_59 : decode cX4_readNights 59 = .ok (.ireturn, 1) := by decide +kernel
theorem dX4_readNights_60 : decode cX4_readNights 60 = .ok (.aload_n 1, 1) := by decide +kernel
theorem dX4_readNights_61 : decode cX4_readNights 61 = .ok (.getfield 69, 3) := by decide +kernel
theorem dX4_readNights_64 : decode cX4_readNights 64 = .ok (.aload_n 1, 1) := by decide +kernel
theorem dX4_readNights_65 : decode cX4_readNights 65 = .ok (.getfield 66, 3) := by decide +kernel
theorem dX4_readNights_68 : decode cX4_readNights 68 = .ok (.iload_n 2, 1) := by decide +kernel
theorem dX4_readNights_69 : decode cX4_readNights 69 = .ok (.iastore, 1) := by decide +kernel
theorem dX4_readNights_70 : decode cX4_readNights 70 = .ok (.aload_n 1, 1) := by decide +kernel
theorem dX4_readNights_71 : decode cX4_readNights 71 = .ok (.getfield 72, 3) := by decide +kernel
theorem dX4_readNights_74 : decode cX4_readNights 74 = .ok (.aload_n 1, 1) := by decide +kernel
theorem dX4_readNights_75 : decode cX4_readNights 75 = .ok (.getfield 66, 3) := by decide +kernel
theorem dX4_readNights_78 : decode cX4_readNights 78 = .ok (.iload_n 3, 1) := by decide +kernel
theorem dX4_readNights_79 : decode cX4_readNights 79 = .ok (.iastore, 1) := by decide +kernel
theorem dX4_readNights_80 : decode cX4_readNights 80 = .ok (.aload_n 1, 1) := by decide +kernel
theorem dX4_readNights_81 : decode cX4_readNights 81 = .ok (.dup, 1) := by decide +kernel
theorem dX4_readNights_82 : decode cX4_readNights 82 = .ok (.getfield 66, 3) := by decide +kernel
theorem dX4_readNights_85 : decode cX4_readNights 85 = .ok (.iconst 1, 1) := by decide +kernel
theorem dX4_readNights_86 : decode cX4_readNights 86 = .ok (.iadd, 1) := by decide +kernel
theorem dX4_readNights_87 : decode cX4_readNights 87 = .ok (.putfield 66, 3) := by decide +kernel
theorem dX4_readNights_90 : decode cX4_readNights 90 = .ok (.goto (-90), 3) := by decide +kernel
theorem dX4_readNights_93 : decode cX4_readNights 93 = .ok (.aload_n 1, 1) := by decide +kernel
theorem dX4_readNights_94 : decode cX4_readNights 94 = .ok (.getfield 66, 3) := by decide +kernel
theorem dX4_readNights_97 : decode cX4_readNights 97 = .ok (.ifCond .le 7, 3) := by decide +kernel
theorem dX4_readNights_100 : decode cX4_readNights 100 = .ok (.iconst 1, 1) := by decide +kernel
theorem dX4_readNights_101 : decode cX4_readNights 101 = .ok (.goto 4, 3) := by decide +kernel
theorem dX4_readNights_104 : decode cX4_readNights 104 = .ok (.iconst 0, 1) := by decide +kernel
theorem dX4_readNights_105 : decode cX4_readNights 105 = .ok (.ireturn, 1) := by decide +kernel
theorem dX4_readGuests_0 : decode cX4_readGuests 0 = .ok (.aload_n 1, 1) := by decide +kernel
theorem dX4_readGuests_1 : decode cX4_readGuests 1 = .ok (.getfield 75, 3) := by decide +kernel
theorem dX4_readGuests_4 : decode cX4_readGuests 4 = .ok (.bipush 8, 2) := by decide +kernel
theorem dX4_readGuests_6 : decode cX4_readGuests 6 = .ok (.if_icmp .ge 76, 3) := by decide +kernel
theorem dX4_readGuests_9 : decode cX4_readGuests 9 = .ok (.aload_n 0, 1) := by decide +kernel
theorem dX4_readGuests_10 : decode cX4_readGuests 10 = .ok (.bipush 43, 2) := by decide +kernel
theorem dX4_readGuests_12 : decode cX4_readGuests 12 = .ok (.invokevirtual 35, 3) := by decide +kernel
theorem dX4_readGuests_15 : decode cX4_readGuests 15 = .ok (.ifCond .eq 67, 3) := by decide +kernel
theorem dX4_readGuests_18 : decode cX4_readGuests 18 = .ok (.aload_n 0, 1) := by decide +kernel
theorem dX4_readGuests_19 : decode cX4_readGuests 19 = .ok (.iconst 3, 1) := by decide +kernel
theorem dX4_readGuests_20 : decode cX4_readGuests 20 = .ok (.invokevirtual 56, 3) := by decide +kernel
theorem dX4_readGuests_23 : decode cX4_readGuests 23 = .ok (.istore_n 2, 1) := by decide +kernel
theorem dX4_readGuests_24 : decode cX4_readGuests 24 = .ok (.iload_n 2, 1) := by decide +kernel
theorem dX4_readGuests_25 : decode cX4_readGuests 25 = .ok (.iconst (-1), 1) := by decide +kernel
theorem dX4_readGuests_26 : decode cX4_readGuests 26 = .ok (.if_icmp .ne 5, 3) := by decide +kernel
theorem dX4_readGuests_29 : decode cX4_readGuests 29 = .ok (.iconst 0, 1) := by decide +kernel
theorem dX4_readGuests_30 : decode cX4_readGuests 30 = .ok (.ireturn, 1) := by decide +kernel
theorem dX4_readGuests_31 : decode cX4_readGuests 31 = .ok (.aload_n 0, 1) := by decide +kernel
theorem dX4_readGuests_32 : decode cX4_readGuests 32 = .ok (.aload_n 1, 1) := by decide +kernel
theorem dX4_readGuests_33 : decode cX4_readGuests 33 = .ok (.getfield 49, 3) := by decide +kernel
theorem dX4_readGuests_36 : decode cX4_readGuests 36 = .ok (.iconst 1, 1) := by decide +kernel
theorem dX4_readGuests_37 : decode cX4_readGuests 37 = .ok (.isub, 1) := by decide +kernel
theorem dX4_readGuests_38 : decode cX4_readGuests 38 = .ok (.invokevirtual 56, 3) := by decide +kernel
theorem dX4_readGuests_41 : decode cX4_readGuests 41 = .ok (.istore_n 3, 1) := by decide +kernel
theorem dX4_readGuests_42 : decode cX4_readGuests 42 = .ok (.iload_n 3, 1) := by decide +kernel
theorem dX4_readGuests_43 : decode cX4_readGuests 43 = .ok (.iconst (-1), 1) := by decide +kernel
theorem dX4_readGuests_44 : decode cX4_readGuests 44 = .ok (.if_icmp .ne 5, 3) := by decide +kernel
theorem dX4_readGuests_47 : decode cX4_readGuests 47 = .ok (.iconst 0, 1) := by decide +kernel
theorem dX4_readGuests_48 : decode cX4_readGuests 48 = .ok (.ireturn, 1) := by decide +kernel
theorem dX4_readGuests_49 : decode cX4_readGuests 49 = .ok (.aload_n 1, 1) := by decide +kernel
theorem dX4_readGuests_50 : decode cX4_readGuests 50 = .ok (.getfield 78, 3) := by decide +kernel
theorem dX4_readGuests_53 : decode cX4_readGuests 53 = .ok (.aload_n 1, 1) := by decide +kernel
theorem dX4_readGuests_54 : decode cX4_readGuests 54 = .ok (.getfield 75, 3) := by decide +kernel
theorem dX4_readGuests_57 : decode cX4_readGuests 57 = .ok (.iload_n 2, 1) := by decide +kernel
theorem dX4_readGuests_58 : decode cX4_readGuests 58 = .ok (.iastore, 1) := by decide +kernel
theorem dX4_readGuests_59 : decode cX4_readGuests 59 = .ok (.aload_n 1, 1) := by decide +kernel
theorem dX4_readGuests_60 : decode cX4_readGuests 60 = .ok (.getfield 81, 3) := by decide +kernel
theorem dX4_readGuests_63 : decode cX4_readGuests 63 = .ok (.aload_n 1, 1) := by decide +kernel
theorem dX4_readGuests_64 : decode cX4_readGuests 64 = .ok (.getfield 75, 3) := by decide +kernel
theorem dX4_readGuests_67 : decode cX4_readGuests 67 = .ok (.iload_n 3, 1) := by decide +kernel
theorem dX4_readGuests_68 : decode cX4_readGuests 68 = .ok (.iastore, 1) := by decide +kernel
theorem dX4_readGuests_69 : decode cX4_readGuests 69 = .ok (.aload_n 1, 1) := by decide +kernel
theorem dX4_readGuests_70 : decode cX4_readGuests 70 = .ok (.dup, 1) := by decide +kernel
theorem dX4_readGuests_71 : decode cX4_readGuests 71 = .ok (.getfield 75, 3) := by decide +kernel
theorem dX4_readGuests_74 : decode cX4_readGuests 74 = .ok (.iconst 1, 1) := by decide +kernel
theorem dX4_readGuests_75 : decode cX4_readGuests 75 = .ok (.iadd, 1) := by decide +kernel
theorem dX4_readGuests_76 : decode cX4_readGuests 76 = .ok (.putfield 75, 3) := by decide +kernel
theorem dX4_readGuests_79 : decode cX4_readGuests 79 = .ok (.goto (-79), 3) := by decide +kernel
theorem dX4_readGuests_82 : decode cX4_readGuests 82 = .ok (.aload_n 1, 1) := by decide +kernel
theorem dX4_readGuests_83 : decode cX4_readGuests 83 = .ok (.getfield 75, 3) := by decide +kernel
theorem dX4_readGuests_86 : decode cX4_readGuests 86 = .ok (.ifCond .le 7, 3) := by decide +kernel
theorem dX4_readGuests_89 : decode cX4_readGuests 89 = .ok (.iconst 1, 1) := by decide +kernel
theorem dX4_readGuests_90 : decode cX4_readGuests 90 = .ok (.goto 4, 3) := by decide +kernel
theorem dX4_readGuests_93 : decode cX4_readGuests 93 = .ok (.iconst 0, 1) := by decide +kernel
theorem dX4_readGuests_94 : decode cX4_readGuests 94 = .ok (.ireturn, 1) := by decide +kernel
theorem dX4_takeKind_0 : decode cX4_takeKind 0 = .ok (.aload_n 0, 1) := by decide +kernel
theorem dX4_takeKind_1 : decode cX4_takeKind 1 = .ok (.bipush 110, 2) := by decide +kernel
theorem dX4_takeKind_3 : decode cX4_takeKind 3 = .ok (.invokevirtual 35, 3) := by decide +kernel
theorem dX4_takeKind_6 : decode cX4_takeKind 6 = .ok (.ifCond .eq 7, 3) := by decide +kernel
theorem dX4_takeKind_9 : decode cX4_takeKind 9 = .ok (.iconst 0, 1) := by decide +kernel
theorem dX4_takeKind_10 : decode cX4_takeKind 10 = .ok (.goto 31, 3) := by decide +kernel
theorem dX4_takeKind_13 : decode cX4_takeKind 13 = .ok (.aload_n 0, 1) := by decide +kernel
theorem dX4_takeKind_14 : decode cX4_takeKind 14 = .ok (.bipush 108, 2) := by decide +kernel
theorem dX4_takeKind_16 : decode cX4_takeKind 16 = .ok (.invokevirtual 35, 3) := by decide +kernel
theorem dX4_takeKind_19 : decode cX4_takeKind 19 = .ok (.ifCond .eq 7, 3) := by decide +kernel
theorem dX4_takeKind_22 : decode cX4_takeKind 22 = .ok (.iconst 1, 1) := by decide +kernel
theorem dX4_takeKind_23 : decode cX4_takeKind 23 = .ok (.goto 18, 3) := by decide +kernel
theorem dX4_takeKind_26 : decode cX4_takeKind 26 = .ok (.aload_n 0, 1) := by decide +kernel
theorem dX4_takeKind_27 : decode cX4_takeKind 27 = .ok (.bipush 99, 2) := by decide +kernel
theorem dX4_takeKind_29 : decode cX4_takeKind 29 = .ok (.invokevirtual 35, 3) := by decide +kernel
theorem dX4_takeKind_32 : decode cX4_takeKind 32 = .ok (.ifCond .eq 7, 3) := by decide +kernel
theorem dX4_takeKind_35 : decode cX4_takeKind 35 = .ok (.iconst 2, 1) := by decide +kernel
theorem dX4_takeKind_36 : decode cX4_takeKind 36 = .ok (.goto 5, 3) := by decide +kernel
theorem dX4_takeKind_39 : decode cX4_takeKind 39 = .ok (.bipush (-9), 2) := by decide +kernel
theorem dX4_takeKind_41 : decode cX4_takeKind 41 = .ok (.ireturn, 1) := by decide +kernel
theorem dX4_takes_0 : decode cX4_takes 0 = .ok (.aload_n 0, 1) := by decide +kernel
theorem dX4_takes_1 : decode cX4_takes 1 = .ok (.getfield 9, 3) := by decide +kernel
theorem dX4_takes_4 : decode cX4_takes 4 = .ok (.aload_n 0, 1) := by decide +kernel
theorem dX4_takes_5 : decode cX4_takes 5 = .ok (.getfield 27, 3) := by decide +kernel
theorem dX4_takes_8 : decode cX4_takes 8 = .ok (.if_icmp .ge 21, 3) := by decide +kernel
theorem dX4_takes_11 : decode cX4_takes 11 = .ok (.aload_n 0, 1) := by decide +kernel
theorem dX4_takes_12 : decode cX4_takes 12 = .ok (.getfield 21, 3) := by decide +kernel
theorem dX4_takes_15 : decode cX4_takes 15 = .ok (.aload_n 0, 1) := by decide +kernel
theorem dX4_takes_16 : decode cX4_takes 16 = .ok (.getfield 24, 3) := by decide +kernel
theorem dX4_takes_19 : decode cX4_takes 19 = .ok (.aload_n 0, 1) := by decide +kernel
theorem dX4_takes_20 : decode cX4_takes 20 = .ok (.getfield 9, 3) := by decide +kernel
theorem dX4_takes_23 : decode cX4_takes 23 = .ok (.iadd, 1) := by decide +kernel
theorem dX4_takes_24 : decode cX4_takes 24 = .ok (.iaload, 1) := by decide +kernel
theorem dX4_takes_25 : decode cX4_takes 25 = .ok (.iload_n 1, 1) := by decide +kernel
theorem dX4_takes_26 : decode cX4_takes 26 = .ok (.if_icmp .eq 5, 3) := by decide +kernel
theorem dX4_takes_29 : decode cX4_takes 29 = .ok (.iconst 0, 1) := by decide +kernel
theorem dX4_takes_30 : decode cX4_takes 30 = .ok (.ireturn, 1) := by decide +kernel
theorem dX4_takes_31 : decode cX4_takes 31 = .ok (.aload_n 0, 1) := by decide +kernel
theorem dX4_takes_32 : decode cX4_takes 32 = .ok (.dup, 1) := by decide +kernel
theorem dX4_takes_33 : decode cX4_takes 33 = .ok (.getfield 9, 3) := by decide +kernel
theorem dX4_takes_36 : decode cX4_takes 36 = .ok (.iconst 1, 1) := by decide +kernel
theorem dX4_takes_37 : decode cX4_takes 37 = .ok (.iadd, 1) := by decide +kernel
theorem dX4_takes_38 : decode cX4_takes 38 = .ok (.putfield 9, 3) := by decide +kernel
theorem dX4_takes_41 : decode cX4_takes 41 = .ok (.iconst 1, 1) := by decide +kernel
theorem dX4_takes_42 : decode cX4_takes 42 = .ok (.ireturn, 1) := by decide +kernel
theorem dX4_takeDigit_0 : decode cX4_takeDigit 0 = .ok (.aload_n 0, 1) := by decide +kernel
theorem dX4_takeDigit_1 : decode cX4_takeDigit 1 = .ok (.getfield 9, 3) := by decide +kernel
theorem dX4_takeDigit_4 : decode cX4_takeDigit 4 = .ok (.aload_n 0, 1) := by decide +kernel
theorem dX4_takeDigit_5 : decode cX4_takeDigit 5 = .ok (.getfield 27, 3) := by decide +kernel
theorem dX4_takeDigit_8 : decode cX4_takeDigit 8 = .ok (.if_icmp .ge 43, 3) := by decide +kernel
theorem dX4_takeDigit_11 : decode cX4_takeDigit 11 = .ok (.aload_n 0, 1) := by decide +kernel
theorem dX4_takeDigit_12 : decode cX4_takeDigit 12 = .ok (.getfield 21, 3) := by decide +kernel
theorem dX4_takeDigit_15 : decode cX4_takeDigit 15 = .ok (.aload_n 0, 1) := by decide +kernel
theorem dX4_takeDigit_16 : decode cX4_takeDigit 16 = .ok (.getfield 24, 3) := by decide +kernel
theorem dX4_takeDigit_19 : decode cX4_takeDigit 19 = .ok (.aload_n 0, 1) := by decide +kernel
theorem dX4_takeDigit_20 : decode cX4_takeDigit 20 = .ok (.getfield 9, 3) := by decide +kernel
theorem dX4_takeDigit_23 : decode cX4_takeDigit 23 = .ok (.iadd, 1) := by decide +kernel
theorem dX4_takeDigit_24 : decode cX4_takeDigit 24 = .ok (.iaload, 1) := by decide +kernel
theorem dX4_takeDigit_25 : decode cX4_takeDigit 25 = .ok (.bipush 48, 2) := by decide +kernel
theorem dX4_takeDigit_27 : decode cX4_takeDigit 27 = .ok (.if_icmp .lt 24, 3) := by decide +kernel
theorem dX4_takeDigit_30 : decode cX4_takeDigit 30 = .ok (.aload_n 0, 1) := by decide +kernel
theorem dX4_takeDigit_31 : decode cX4_takeDigit 31 = .ok (.getfield 21, 3) := by decide +kernel
theorem dX4_takeDigit_34 : decode cX4_takeDigit 34 = .ok (.aload_n 0, 1) := by decide +kernel
theorem dX4_takeDigit_35 : decode cX4_takeDigit 35 = .ok (.getfield 24, 3) := by decide +kernel
theorem dX4_takeDigit_38 : decode cX4_takeDigit 38 = .ok (.aload_n 0, 1) := by decide +kernel
theorem dX4_takeDigit_39 : decode cX4_takeDigit 39 = .ok (.getfield 9, 3) := by decide +kernel
theorem dX4_takeDigit_42 : decode cX4_takeDigit 42 = .ok (.iadd, 1) := by decide +kernel
theorem dX4_takeDigit_43 : decode cX4_takeDigit 43 = .ok (.iaload, 1) := by decide +kernel
theorem dX4_takeDigit_44 : decode cX4_takeDigit 44 = .ok (.bipush 48, 2) := by decide +kernel
theorem dX4_takeDigit_46 : decode cX4_takeDigit 46 = .ok (.iload_n 1, 1) := by decide +kernel
theorem dX4_takeDigit_47 : decode cX4_takeDigit 47 = .ok (.iadd, 1) := by decide +kernel
theorem dX4_takeDigit_48 : decode cX4_takeDigit 48 = .ok (.if_icmp .le 5, 3) := by decide +kernel
theorem dX4_takeDigit_51 : decode cX4_takeDigit 51 = .ok (.iconst (-1), 1) := by decide +kernel
theorem dX4_takeDigit_52 : decode cX4_takeDigit 52 = .ok (.ireturn, 1) := by decide +kernel
theorem dX4_takeDigit_53 : decode cX4_takeDigit 53 = .ok (.aload_n 0, 1) := by decide +kernel
theorem dX4_takeDigit_54 : decode cX4_takeDigit 54 = .ok (.getfield 21, 3) := by decide +kernel
theorem dX4_takeDigit_57 : decode cX4_takeDigit 57 = .ok (.aload_n 0, 1) := by decide +kernel
theorem dX4_takeDigit_58 : decode cX4_takeDigit 58 = .ok (.getfield 24, 3) := by decide +kernel
theorem dX4_takeDigit_61 : decode cX4_takeDigit 61 = .ok (.aload_n 0, 1) := by decide +kernel
theorem dX4_takeDigit_62 : decode cX4_takeDigit 62 = .ok (.getfield 9, 3) := by decide +kernel
theorem dX4_takeDigit_65 : decode cX4_takeDigit 65 = .ok (.iadd, 1) := by decide +kernel
theorem dX4_takeDigit_66 : decode cX4_takeDigit 66 = .ok (.iaload, 1) := by decide +kernel
theorem dX4_takeDigit_67 : decode cX4_takeDigit 67 = .ok (.bipush 48, 2) := by decide +kernel
theorem dX4_takeDigit_69 : decode cX4_takeDigit 69 = .ok (.isub, 1) := by decide +kernel
theorem dX4_takeDigit_70 : decode cX4_takeDigit 70 = .ok (.istore_n 2, 1) := by decide +kernel
theorem dX4_takeDigit_71 : decode cX4_takeDigit 71 = .ok (.aload_n 0, 1) := by decide +kernel
theorem dX4_takeDigit_72 : decode cX4_takeDigit 72 = .ok (.dup, 1) := by decide +kernel
theorem dX4_takeDigit_73 : decode cX4_takeDigit 73 = .ok (.getfield 9, 3) := by decide +kernel
theorem dX4_takeDigit_76 : decode cX4_takeDigit 76 = .ok (.iconst 1, 1) := by decide +kernel
theorem dX4_takeDigit_77 : decode cX4_takeDigit 77 = .ok (.iadd, 1) := by decide +kernel
theorem dX4_takeDigit_78 : decode cX4_takeDigit 78 = .ok (.putfield 9, 3) := by decide +kernel
theorem dX4_takeDigit_81 : decode cX4_takeDigit 81 = .ok (.iload_n 2, 1) := by decide +kernel
theorem dX4_takeDigit_82 : decode cX4_takeDigit 82 = .ok (.ireturn, 1) := by decide +kernel
theorem dX5_init_0 : decode cX5_init 0 = .ok (.aload_n 0, 1) := by decide +kernel
theorem dX5_init_1 : decode cX5_init 1 = .ok (.invokespecial 3, 3) := by decide +kernel
theorem dX5_init_4 : decode cX5_init 4 = .ok (.aload_n 0, 1) := by decide +kernel
theorem dX5_init_5 : decode cX5_init 5 = .ok (.new 9, 3) := by decide +kernel
theorem dX5_init_8 : decode cX5_init 8 = .ok (.dup, 1) := by decide +kernel
theorem dX5_init_9 : decode cX5_init 9 = .ok (.invokespecial 11, 3) := by decide +kernel
theorem dX5_init_12 : decode cX5_init 12 = .ok (.putfield 12, 3) := by decide +kernel
theorem dX5_init_15 : decode cX5_init 15 = .ok (.aload_n 0, 1) := by decide +kernel
theorem dX5_init_16 : decode cX5_init 16 = .ok (.new 18, 3) := by decide +kernel
theorem dX5_init_19 : decode cX5_init 19 = .ok (.dup, 1) := by decide +kernel
theorem dX5_init_20 : decode cX5_init 20 = .ok (.aload_n 0, 1) := by decide +kernel
theorem dX5_init_21 : decode cX5_init 21 = .ok (.getfield 12, 3) := by decide +kernel
theorem dX5_init_24 : decode cX5_init 24 = .ok (.invokespecial 20, 3) := by decide +kernel
theorem dX5_init_27 : decode cX5_init 27 = .ok (.putfield 23, 3) := by decide +kernel
theorem dX5_init_30 : decode cX5_init 30 = .ok (.aload_n 0, 1) := by decide +kernel
theorem dX5_init_31 : decode cX5_init 31 = .ok (.aload_n 1, 1) := by decide +kernel
theorem dX5_init_32 : decode cX5_init 32 = .ok (.putfield 27, 3) := by decide +kernel
theorem dX5_init_35 : decode cX5_init 35 = .ok (.aload_n 0, 1) := by decide +kernel
theorem dX5_init_36 : decode cX5_init 36 = .ok (.aload_n 2, 1) := by decide +kernel
theorem dX5_init_37 : decode cX5_init 37 = .ok (.putfield 30, 3) := by decide +kernel
theorem dX5_init_40 : decode cX5_init 40 = .ok (.return_, 1) := by decide +kernel
theorem dX5_leastSweep_0 : decode cX5_leastSweep 0 = .ok (.aload_n 0, 1) := by decide +kernel
theorem dX5_leastSweep_1 : decode cX5_leastSweep 1 = .ok (.getfield 12, 3) := by decide +kernel
theorem dX5_leastSweep_4 : decode cX5_leastSweep 4 = .ok (.aload_n 0, 1) := by decide +kernel
theorem dX5_leastSweep_5 : decode cX5_leastSweep 5 = .ok (.getfield 27, 3) := by decide +kernel
theorem dX5_leastSweep_8 : decode cX5_leastSweep 8 = .ok (.invokevirtual 34, 3) := by decide +kernel
theorem dX5_leastSweep_11 : decode cX5_leastSweep 11 = .ok (.aload_n 0, 1) := by decide +kernel
theorem dX5_leastSweep_12 : decode cX5_leastSweep 12 = .ok (.getfield 23, 3) := by decide +kernel
theorem dX5_leastSweep_15 : decode cX5_leastSweep 15 = .ok (.iload_n 1, 1) := by decide +kernel
theorem dX5_leastSweep_16 : decode cX5_leastSweep 16 = .ok (.invokevirtual 37, 3) := by decide +kernel
theorem dX5_leastSweep_19 : decode cX5_leastSweep 19 = .ok (.ifCond .eq 14, 3) := by decide +kernel
theorem dX5_leastSweep_22 : decode cX5_leastSweep 22 = .ok (.iload_n 2, 1) := by decide +kernel
theorem dX5_leastSweep_23 : decode cX5_leastSweep 23 = .ok (.ifCond .ne 7, 3) := by decide +kernel
theorem dX5_leastSweep_26 : decode cX5_leastSweep 26 = .ok (.iconst 0, 1) := by decide +kernel
theorem dX5_leastSweep_27 : decode cX5_leastSweep 27 = .ok (.goto 5, 3) := by decide +kernel
theorem dX5_leastSweep_30 : decode cX5_leastSweep 30 = .ok (.bipush (-9), 2) := by decide +kernel
theorem dX5_leastSweep_32 : decode cX5_leastSweep 32 = .ok (.ireturn, 1) := by decide +kernel
theorem dX5_leastSweep_33 : decode cX5_leastSweep 33 = .ok (.iconst 1, 1) := by decide +kernel
theorem dX5_leastSweep_34 : decode cX5_leastSweep 34 = .ok (.istore_n 3, 1) := by decide +kernel
theorem dX5_leastSweep_35 : decode cX5_leastSweep 35 = .ok (.iload_n 3, 1) := by decide +kernel
theorem dX5_leastSweep_36 : decode cX5_leastSweep 36 = .ok (.bipush 9, 2) := by decide +kernel
theorem dX5_leastSweep_38 : decode cX5_leastSweep 38 = .ok (.if_icmp .gt 85, 3) := by decide +kernel
theorem dX5_leastSweep_41 : decode cX5_leastSweep 41 = .ok (.iconst 0, 1) := by decide +kernel
theorem dX5_leastSweep_42 : decode cX5_leastSweep 42 = .ok (.istore 4, 2) := by decide +kernel
theorem dX5_leastSweep_44 : decode cX5_leastSweep 44 = .ok (.iload 4, 2) := by decide +kernel
theorem dX5_leastSweep_46 : decode cX5_leastSweep 46 = .ok (.aload_n 0, 1) := by decide +kernel
theorem dX5_leastSweep_47 : decode cX5_leastSweep 47 = .ok (.getfield 27, 3) := by decide +kernel
theorem dX5_leastSweep_50 : decode cX5_leastSweep 50 = .ok (.getfield 41, 3) := by decide +kernel
theorem dX5_leastSweep_53 : decode cX5_leastSweep 53 = .ok (.if_icmp .ge 64, 3) := by decide +kernel
theorem dX5_leastSweep_56 : decode cX5_leastSweep 56 = .ok (.iload 4, 2) := by decide +kernel
theorem dX5_leastSweep_58 : decode cX5_leastSweep 58 = .ok (.iconst 1, 1) := by decide +kernel
theorem dX5_leastSweep_59 : decode cX5_leastSweep 59 = .ok (.isub, 1) := by decide +kernel
theorem dX5_leastSweep_60 : decode cX5_leastSweep 60 = .ok (.istore 5, 2) := by decide +kernel
theorem dX5_leastSweep_62 : decode cX5_leastSweep 62 = .ok (.iload 5, 2) := by decide +kernel
theorem dX5_leastSweep_64 : decode cX5_leastSweep 64 = .ok (.iload 4, 2) := by decide +kernel
theorem dX5_leastSweep_66 : decode cX5_leastSweep 66 = .ok (.iconst 1, 1) := by decide +kernel
theorem dX5_leastSweep_67 : decode cX5_leastSweep 67 = .ok (.iadd, 1) := by decide +kernel
theorem dX5_leastSweep_68 : decode cX5_leastSweep 68 = .ok (.if_icmp .gt 43, 3) := by decide +kernel
theorem dX5_leastSweep_71 : decode cX5_leastSweep 71 = .ok (.aload_n 0, 1) := by decide +kernel
theorem dX5_leastSweep_72 : decode cX5_leastSweep 72 = .ok (.iload 4, 2) := by decide +kernel
theorem dX5_leastSweep_74 : decode cX5_leastSweep 74 = .ok (.iload 5, 2) := by decide +kernel
theorem dX5_leastSweep_76 : decode cX5_leastSweep 76 = .ok (.iload_n 3, 1) := by decide +kernel
theorem dX5_leastSweep_77 : decode cX5_leastSweep 77 = .ok (.iload_n 1, 1) := by decide +kernel
theorem dX5_leastSweep_78 : decode cX5_leastSweep 78 = .ok (.invokevirtual 45, 3) := by decide +kernel
theorem dX5_leastSweep_81 : decode cX5_leastSweep 81 = .ok (.ifCond .eq 24, 3) := by decide +kernel
theorem dX5_leastSweep_84 : decode cX5_leastSweep 84 = .ok (.iload_n 2, 1) := by decide +kernel
theorem dX5_leastSweep_85 : decode cX5_leastSweep 85 = .ok (.ifCond .ne 7, 3) := by decide +kernel
theorem dX5_leastSweep_88 : decode cX5_leastSweep 88 = .ok (.iload_n 3, 1) := by decide +kernel
theorem dX5_leastSweep_89 : decode cX5_leastSweep 89 = .ok (.goto 15, 3) := by decide +kernel
theorem dX5_leastSweep_92 : decode cX5_leastSweep 92 = .ok (.iload_n 2, 1) := by decide +kernel
theorem dX5_leastSweep_93 : decode cX5_leastSweep 93 = .ok (.iconst 1, 1) := by decide +kernel
theorem dX5_leastSweep_94 : decode cX5_leastSweep 94 = .ok (.if_icmp .ne 8, 3) := by decide +kernel
theorem dX5_leastSweep_97 : decode cX5_leastSweep 97 = .ok (.iload 4, 2) := by decide +kernel
theorem dX5_leastSweep_99 : decode cX5_leastSweep 99 = .ok (.goto 5, 3) := by decide +kernel
theorem dX5_leastSweep_102 : decode cX5_leastSweep 102 = .ok (.iload 5, 2) := by decide +kernel
theorem dX5_leastSweep_104 : decode cX5_leastSweep 104 = .ok (.ireturn, 1) := by decide +kernel
theorem dX5_leastSweep_105 : decode cX5_leastSweep 105 = .ok (.iinc 5 2, 3) := by decide +kernel
theorem dX5_leastSweep_108 : decode cX5_leastSweep 108 = .ok (.goto (-46), 3) := by decide +kernel
theorem dX5_leastSweep_111 : decode cX5_leastSweep 111 = .ok (.iinc 4 1, 3) := by decide +kernel
theorem dX5_leastSweep_114 : decode cX5_leastSweep 114 = .ok (.goto (-70), 3) := by decide +kernel
theorem dX5_leastSweep_117 : decode cX5_leastSweep 117 = .ok (.iinc 3 1, 3) := by decide +kernel
theorem dX5_leastSweep_120 : decode cX5_leastSweep 120 = .ok (.goto (-85), 3) := by decide +kernel
theorem dX5_leastSweep_123 : decode cX5_leastSweep 123 = .ok (.bipush (-9), 2) := by decide +kernel
theorem dX5_leastSweep_125 : decode cX5_leastSweep 125 = .ok (.ireturn, 1) := by decide +kernel
theorem dX5_sweepEmptiesRoad_0 : decode cX5_sweepEmptiesRoad 0 = .ok (.aload_n 0, 1) := by decide +kernel
theorem dX5_sweepEmptiesRoad_1 : decode cX5_sweepEmptiesRoad 1 = .ok (.getfield 27, 3) := by decide +kernel
theorem dX5_sweepEmptiesRoad_4 : decode cX5_sweepEmptiesRoad 4 = .ok (.iload_n 2, 1) := by decide +kernel
theorem dX5_sweepEmptiesRoad_5 : decode cX5_sweepEmptiesRoad 5 = .ok (.invokevirtual 49, 3) := by decide +kernel
theorem dX5_sweepEmptiesRoad_8 : decode cX5_sweepEmptiesRoad 8 = .ok (.ifCond .eq 16, 3) := by decide +kernel
theorem dX5_sweepEmptiesRoad_11 : decode cX5_sweepEmptiesRoad 11 = .ok (.iload_n 3, 1) := by decide +kernel
theorem dX5_sweepEmptiesRoad_12 : decode cX5_sweepEmptiesRoad 12 = .ok (.aload_n 0, 1) := by decide +kernel
theorem dX5_sweepEmptiesRoad_13 : decode cX5_sweepEmptiesRoad 13 = .ok (.getfield 27, 3) := by decide +kernel
theorem dX5_sweepEmptiesRoad_16 : decode cX5_sweepEmptiesRoad 16 = .ok (.getfield 52, 3) := by decide +kernel
theorem dX5_sweepEmptiesRoad_19 : decode cX5_sweepEmptiesRoad 19 = .ok (.iload_n 1, 1) := by decide +kernel
theorem dX5_sweepEmptiesRoad_20 : decode cX5_sweepEmptiesRoad 20 = .ok (.iaload, 1) := by decide +kernel
theorem dX5_sweepEmptiesRoad_21 : decode cX5_sweepEmptiesRoad 21 = .ok (.if_icmp .le 5, 3) := by decide +kernel
theorem dX5_sweepEmptiesRoad_24 : decode cX5_sweepEmptiesRoad 24 = .ok (.iconst 0, 1) := by decide +kernel
theorem dX5_sweepEmptiesRoad_25 : decode cX5_sweepEmptiesRoad 25 = .ok (.ireturn, 1) := by decide +kernel
theorem dX5_sweepEmptiesRoad_26 : decode cX5_sweepEmptiesRoad 26 = .ok (.aload_n 0, 1) := by decide +kernel
theorem dX5_sweepEmptiesRoad_27 : decode cX5_sweepEmptiesRoad 27 = .ok (.getfield 12, 3) := by decide +kernel
theorem dX5_sweepEmptiesRoad_30 : decode cX5_sweepEmptiesRoad 30 = .ok (.aload_n 0, 1) := by decide +kernel
theorem dX5_sweepEmptiesRoad_31 : decode cX5_sweepEmptiesRoad 31 = .ok (.getfield 27, 3) := by decide +kernel
theorem dX5_sweepEmptiesRoad_34 : decode cX5_sweepEmptiesRoad 34 = .ok (.invokevirtual 34, 3) := by decide +kernel
theorem dX5_sweepEmptiesRoad_37 : decode cX5_sweepEmptiesRoad 37 = .ok (.aload_n 0, 1) := by decide +kernel
theorem dX5_sweepEmptiesRoad_38 : decode cX5_sweepEmptiesRoad 38 = .ok (.getfield 12, 3) := by decide +kernel
theorem dX5_sweepEmptiesRoad_41 : decode cX5_sweepEmptiesRoad 41 = .ok (.iload_n 1, 1) := by decide +kernel
theorem dX5_sweepEmptiesRoad_42 : decode cX5_sweepEmptiesRoad 42 = .ok (.iload_n 2, 1) := by decide +kernel
theorem dX5_sweepEmptiesRoad_43 : decode cX5_sweepEmptiesRoad 43 = .ok (.iload_n 3, 1) := by decide +kernel
theorem dX5_sweepEmptiesRoad_44 : decode cX5_sweepEmptiesRoad 44 = .ok (.invokevirtual 56, 3) := by decide +kernel
theorem dX5_sweepEmptiesRoad_47 : decode cX5_sweepEmptiesRoad 47 = .ok (.pop, 1) := by decide +kernel
theorem dX5_sweepEmptiesRoad_48 : decode cX5_sweepEmptiesRoad 48 = .ok (.aload_n 0, 1) := by decide +kernel
theorem dX5_sweepEmptiesRoad_49 : decode cX5_sweepEmptiesRoad 49 = .ok (.getfield 23, 3) := by decide +kernel
theorem dX5_sweepEmptiesRoad_52 : decode cX5_sweepEmptiesRoad 52 = .ok (.iload 4, 2) := by decide +kernel
theorem dX5_sweepEmptiesRoad_54 : decode cX5_sweepEmptiesRoad 54 = .ok (.invokevirtual 37, 3) := by decide +kernel
theorem dX5_sweepEmptiesRoad_57 : decode cX5_sweepEmptiesRoad 57 = .ok (.ireturn, 1) := by decide +kernel
theorem dX5_firstTurn_0 : decode cX5_firstTurn 0 = .ok (.aload_n 0, 1) := by decide +kernel
theorem dX5_firstTurn_1 : decode cX5_firstTurn 1 = .ok (.getfield 12, 3) := by decide +kernel
theorem dX5_firstTurn_4 : decode cX5_firstTurn 4 = .ok (.aload_n 0, 1) := by decide +kernel
theorem dX5_firstTurn_5 : decode cX5_firstTurn 5 = .ok (.getfield 27, 3) := by decide +kernel
theorem dX5_firstTurn_8 : decode cX5_firstTurn 8 = .ok (.invokevirtual 34, 3) := by decide +kernel
theorem dX5_firstTurn_11 : decode cX5_firstTurn 11 = .ok (.aload_n 0, 1) := by decide +kernel
theorem dX5_firstTurn_12 : decode cX5_firstTurn 12 = .ok (.getfield 23, 3) := by decide +kernel
theorem dX5_firstTurn_15 : decode cX5_firstTurn 15 = .ok (.iload_n 1, 1) := by decide +kernel
theorem dX5_firstTurn_16 : decode cX5_firstTurn 16 = .ok (.iload_n 2, 1) := by decide +kernel
theorem dX5_firstTurn_17 : decode cX5_firstTurn 17 = .ok (.invokevirtual 60, 3) := by decide +kernel
theorem dX5_firstTurn_20 : decode cX5_firstTurn 20 = .ok (.bipush (-9), 2) := by decide +kernel
theorem dX5_firstTurn_22 : decode cX5_firstTurn 22 = .ok (.if_icmp .eq 6, 3) := by decide +kernel
theorem dX5_firstTurn_25 : decode cX5_firstTurn 25 = .ok (.bipush (-9), 2) := by decide +kernel
theorem dX5_firstTurn_27 : decode cX5_firstTurn 27 = .ok (.ireturn, 1) := by decide +kernel
theorem dX5_firstTurn_28 : decode cX5_firstTurn 28 = .ok (.iconst 0, 1) := by decide +kernel
theorem dX5_firstTurn_29 : decode cX5_firstTurn 29 = .ok (.istore_n 3, 1) := by decide +kernel
theorem dX5_firstTurn_30 : decode cX5_firstTurn 30 = .ok (.iload_n 3, 1) := by decide +kernel
theorem dX5_firstTurn_31 : decode cX5_firstTurn 31 = .ok (.iload_n 2, 1) := by decide +kernel
theorem dX5_firstTurn_32 : decode cX5_firstTurn 32 = .ok (.if_icmp .ge 69, 3) := by decide +kernel
theorem dX5_firstTurn_35 : decode cX5_firstTurn 35 = .ok (.aload_n 0, 1) := by decide +kernel
theorem dX5_firstTurn_36 : decode cX5_firstTurn 36 = .ok (.getfield 12, 3) := by decide +kernel
theorem dX5_firstTurn_39 : decode cX5_firstTurn 39 = .ok (.getfield 64, 3) := by decide +kernel
theorem dX5_firstTurn_42 : decode cX5_firstTurn 42 = .ok (.iload_n 3, 1) := by decide +kernel
theorem dX5_firstTurn_43 : decode cX5_firstTurn 43 = .ok (.aload_n 0, 1) := by decide +kernel
theorem dX5_firstTurn_44 : decode cX5_firstTurn 44 = .ok (.getfield 27, 3) := by decide +kernel
theorem dX5_firstTurn_47 : decode cX5_firstTurn 47 = .ok (.getfield 64, 3) := by decide +kernel
theorem dX5_firstTurn_50 : decode cX5_firstTurn 50 = .ok (.iload_n 3, 1) := by decide +kernel
theorem dX5_firstTurn_51 : decode cX5_firstTurn 51 = .ok (.iaload, 1) := by decide +kernel
theorem dX5_firstTurn_52 : decode cX5_firstTurn 52 = .ok (.ifCond .ne 7, 3) := by decide +kernel
theorem dX5_firstTurn_55 : decode cX5_firstTurn 55 = .ok (.iconst 1, 1) := by decide +kernel
theorem dX5_firstTurn_56 : decode cX5_firstTurn 56 = .ok (.goto 4, 3) := by decide +kernel
theorem dX5_firstTurn_59 : decode cX5_firstTurn 59 = .ok (.iconst 0, 1) := by decide +kernel
theorem dX5_firstTurn_60 : decode cX5_firstTurn 60 = .ok (.iastore, 1) := by decide +kernel
theorem dX5_firstTurn_61 : decode cX5_firstTurn 61 = .ok (.aload_n 0, 1) := by decide +kernel
theorem dX5_firstTurn_62 : decode cX5_firstTurn 62 = .ok (.getfield 23, 3) := by decide +kernel
theorem dX5_firstTurn_65 : decode cX5_firstTurn 65 = .ok (.iload_n 1, 1) := by decide +kernel
theorem dX5_firstTurn_66 : decode cX5_firstTurn 66 = .ok (.iload_n 2, 1) := by decide +kernel
theorem dX5_firstTurn_67 : decode cX5_firstTurn 67 = .ok (.invokevirtual 60, 3) := by decide +kernel
theorem dX5_firstTurn_70 : decode cX5_firstTurn 70 = .ok (.bipush (-9), 2) := by decide +kernel
theorem dX5_firstTurn_72 : decode cX5_firstTurn 72 = .ok (.if_icmp .eq 5, 3) := by decide +kernel
theorem dX5_firstTurn_75 : decode cX5_firstTurn 75 = .ok (.iload_n 3, 1) := by decide +kernel
theorem dX5_firstTurn_76 : decode cX5_firstTurn 76 = .ok (.ireturn, 1) := by decide +kernel
theorem dX5_firstTurn_77 : decode cX5_firstTurn 77 = .ok (.aload_n 0, 1) := by decide +kernel
theorem dX5_firstTurn_78 : decode cX5_firstTurn 78 = .ok (.getfield 12, 3) := by decide +kernel
theorem dX5_firstTurn_81 : decode cX5_firstTurn 81 = .ok (.getfield 64, 3) := by decide +kernel
theorem dX5_firstTurn_84 : decode cX5_firstTurn 84 = .ok (.iload_n 3, 1) := by decide +kernel
theorem dX5_firstTurn_85 : decode cX5_firstTurn 85 = .ok (.aload_n 0, 1) := by decide +kernel
theorem dX5_firstTurn_86 : decode cX5_firstTurn 86 = .ok (.getfield 27, 3) := by decide +kernel
theorem dX5_firstTurn_89 : decode cX5_firstTurn 89 = .ok (.getfield 64, 3) := by decide +kernel
theorem dX5_firstTurn_92 : decode cX5_firstTurn 92 = .ok (.iload_n 3, 1) := by decide +kernel
theorem dX5_firstTurn_93 : decode cX5_firstTurn 93 = .ok (.iaload, 1) := by decide +kernel
theorem dX5_firstTurn_94 : decode cX5_firstTurn 94 = .ok (.iastore, 1) := by decide +kernel
theorem dX5_firstTurn_95 : decode cX5_firstTurn 95 = .ok (.iinc 3 1, 3) := by decide +kernel
theorem dX5_firstTurn_98 : decode cX5_firstTurn 98 = .ok (.goto (-68), 3) := by decide +kernel
theorem dX5_firstTurn_101 : decode cX5_firstTurn 101 = .ok (.bipush (-9), 2) := by decide +kernel
theorem dX5_firstTurn_103 : decode cX5_firstTurn 103 = .ok (.ireturn, 1) := by decide +kernel
theorem dX5_innsThatCork_0 : decode cX5_innsThatCork 0 = .ok (.aload_n 0, 1) := by decide +kernel
theorem dX5_innsThatCork_1 : decode cX5_innsThatCork 1 = .ok (.getfield 12, 3) := by decide +kernel
theorem dX5_innsThatCork_4 : decode cX5_innsThatCork 4 = .ok (.aload_n 0, 1) := by decide +kernel
theorem dX5_innsThatCork_5 : decode cX5_innsThatCork 5 = .ok (.getfield 27, 3) := by decide +kernel
theorem dX5_innsThatCork_8 : decode cX5_innsThatCork 8 = .ok (.invokevirtual 34, 3) := by decide +kernel
theorem dX5_innsThatCork_11 : decode cX5_innsThatCork 11 = .ok (.aload_n 0, 1) := by decide +kernel
theorem dX5_innsThatCork_12 : decode cX5_innsThatCork 12 = .ok (.iload_n 1, 1) := by decide +kernel
theorem dX5_innsThatCork_13 : decode cX5_innsThatCork 13 = .ok (.invokevirtual 67, 3) := by decide +kernel
theorem dX5_innsThatCork_16 : decode cX5_innsThatCork 16 = .ok (.istore_n 2, 1) := by decide +kernel
theorem dX5_innsThatCork_17 : decode cX5_innsThatCork 17 = .ok (.iconst 0, 1) := by decide +kernel
theorem dX5_innsThatCork_18 : decode cX5_innsThatCork 18 = .ok (.istore_n 3, 1) := by decide +kernel
theorem dX5_innsThatCork_19 : decode cX5_innsThatCork 19 = .ok (.iconst 0, 1) := by decide +kernel
theorem dX5_innsThatCork_20 : decode cX5_innsThatCork 20 = .ok (.istore 4, 2) := by decide +kernel
theorem dX5_innsThatCork_22 : decode cX5_innsThatCork 22 = .ok (.iload 4, 2) := by decide +kernel
theorem dX5_innsThatCork_24 : decode cX5_innsThatCork 24 = .ok (.aload_n 0, 1) := by decide +kernel
end
section
theorem dX5_innsThatCork_25 : decode cX5_innsThatCork 25 = .ok (.getfield 27, 3) := by decide +kernel
theorem dX5_innsThatCork_28 : decode cX5_innsThatCork 28 = .ok (.getfield 41, 3) := by decide +kernel
theorem dX5_innsThatCork_31 : decode cX5_innsThatCork 31 = .ok (.if_icmp .ge 34, 3) := by decide +kernel
theorem dX5_innsThatCork_34 : decode cX5_innsThatCork 34 = .ok (.aload_n 0, 1) := by decide +kernel
theorem dX5_innsThatCork_35 : decode cX5_innsThatCork 35 = .ok (.getfield 12, 3) := by decide +kernel
theorem dX5_innsThatCork_38 : decode cX5_innsThatCork 38 = .ok (.iload 4, 2) := by decide +kernel
theorem dX5_innsThatCork_40 : decode cX5_innsThatCork 40 = .ok (.putfield 71, 3) := by decide +kernel
theorem dX5_innsThatCork_43 : decode cX5_innsThatCork 43 = .ok (.aload_n 0, 1) := by decide +kernel
theorem dX5_innsThatCork_44 : decode cX5_innsThatCork 44 = .ok (.iload_n 1, 1) := by decide +kernel
theorem dX5_innsThatCork_45 : decode cX5_innsThatCork 45 = .ok (.invokevirtual 67, 3) := by decide +kernel
theorem dX5_innsThatCork_48 : decode cX5_innsThatCork 48 = .ok (.iload_n 2, 1) := by decide +kernel
theorem dX5_innsThatCork_49 : decode cX5_innsThatCork 49 = .ok (.if_icmp .ge 10, 3) := by decide +kernel
theorem dX5_innsThatCork_52 : decode cX5_innsThatCork 52 = .ok (.iload_n 3, 1) := by decide +kernel
theorem dX5_innsThatCork_53 : decode cX5_innsThatCork 53 = .ok (.iconst 1, 1) := by decide +kernel
theorem dX5_innsThatCork_54 : decode cX5_innsThatCork 54 = .ok (.iload 4, 2) := by decide +kernel
theorem dX5_innsThatCork_56 : decode cX5_innsThatCork 56 = .ok (.ishl, 1) := by decide +kernel
theorem dX5_innsThatCork_57 : decode cX5_innsThatCork 57 = .ok (.ior, 1) := by decide +kernel
theorem dX5_innsThatCork_58 : decode cX5_innsThatCork 58 = .ok (.istore_n 3, 1) := by decide +kernel
theorem dX5_innsThatCork_59 : decode cX5_innsThatCork 59 = .ok (.iinc 4 1, 3) := by decide +kernel
theorem dX5_innsThatCork_62 : decode cX5_innsThatCork 62 = .ok (.goto (-40), 3) := by decide +kernel
theorem dX5_innsThatCork_65 : decode cX5_innsThatCork 65 = .ok (.iload_n 3, 1) := by decide +kernel
theorem dX5_innsThatCork_66 : decode cX5_innsThatCork 66 = .ok (.ireturn, 1) := by decide +kernel
theorem dX5_manyOnRoad_0 : decode cX5_manyOnRoad 0 = .ok (.aload_n 0, 1) := by decide +kernel
theorem dX5_manyOnRoad_1 : decode cX5_manyOnRoad 1 = .ok (.getfield 23, 3) := by decide +kernel
theorem dX5_manyOnRoad_4 : decode cX5_manyOnRoad 4 = .ok (.iload_n 1, 1) := by decide +kernel
theorem dX5_manyOnRoad_5 : decode cX5_manyOnRoad 5 = .ok (.iconst 1, 1) := by decide +kernel
theorem dX5_manyOnRoad_6 : decode cX5_manyOnRoad 6 = .ok (.iadd, 1) := by decide +kernel
theorem dX5_manyOnRoad_7 : decode cX5_manyOnRoad 7 = .ok (.invokevirtual 74, 3) := by decide +kernel
theorem dX5_manyOnRoad_10 : decode cX5_manyOnRoad 10 = .ok (.aload_n 0, 1) := by decide +kernel
theorem dX5_manyOnRoad_11 : decode cX5_manyOnRoad 11 = .ok (.getfield 23, 3) := by decide +kernel
theorem dX5_manyOnRoad_14 : decode cX5_manyOnRoad 14 = .ok (.iload_n 1, 1) := by decide +kernel
theorem dX5_manyOnRoad_15 : decode cX5_manyOnRoad 15 = .ok (.iconst 1, 1) := by decide +kernel
theorem dX5_manyOnRoad_16 : decode cX5_manyOnRoad 16 = .ok (.iadd, 1) := by decide +kernel
theorem dX5_manyOnRoad_17 : decode cX5_manyOnRoad 17 = .ok (.invokevirtual 78, 3) := by decide +kernel
theorem dX5_manyOnRoad_20 : decode cX5_manyOnRoad 20 = .ok (.invokestatic 81, 3) := by decide +kernel
theorem dX5_manyOnRoad_23 : decode cX5_manyOnRoad 23 = .ok (.ireturn, 1) := by decide +kernel
theorem dX5_rulesThatFit_0 : decode cX5_rulesThatFit 0 = .ok (.aload_n 0, 1) := by decide +kernel
theorem dX5_rulesThatFit_1 : decode cX5_rulesThatFit 1 = .ok (.getfield 12, 3) := by decide +kernel
theorem dX5_rulesThatFit_4 : decode cX5_rulesThatFit 4 = .ok (.aload_n 0, 1) := by decide +kernel
theorem dX5_rulesThatFit_5 : decode cX5_rulesThatFit 5 = .ok (.getfield 27, 3) := by decide +kernel
theorem dX5_rulesThatFit_8 : decode cX5_rulesThatFit 8 = .ok (.invokevirtual 34, 3) := by decide +kernel
theorem dX5_rulesThatFit_11 : decode cX5_rulesThatFit 11 = .ok (.iconst 0, 1) := by decide +kernel
theorem dX5_rulesThatFit_12 : decode cX5_rulesThatFit 12 = .ok (.istore_n 1, 1) := by decide +kernel
theorem dX5_rulesThatFit_13 : decode cX5_rulesThatFit 13 = .ok (.iconst 0, 1) := by decide +kernel
theorem dX5_rulesThatFit_14 : decode cX5_rulesThatFit 14 = .ok (.istore_n 2, 1) := by decide +kernel
theorem dX5_rulesThatFit_15 : decode cX5_rulesThatFit 15 = .ok (.iload_n 2, 1) := by decide +kernel
theorem dX5_rulesThatFit_16 : decode cX5_rulesThatFit 16 = .ok (.iconst 2, 1) := by decide +kernel
theorem dX5_rulesThatFit_17 : decode cX5_rulesThatFit 17 = .ok (.if_icmp .ge 25, 3) := by decide +kernel
theorem dX5_rulesThatFit_20 : decode cX5_rulesThatFit 20 = .ok (.aload_n 0, 1) := by decide +kernel
theorem dX5_rulesThatFit_21 : decode cX5_rulesThatFit 21 = .ok (.getfield 12, 3) := by decide +kernel
theorem dX5_rulesThatFit_24 : decode cX5_rulesThatFit 24 = .ok (.iload_n 2, 1) := by decide +kernel
theorem dX5_rulesThatFit_25 : decode cX5_rulesThatFit 25 = .ok (.putfield 86, 3) := by decide +kernel
theorem dX5_rulesThatFit_28 : decode cX5_rulesThatFit 28 = .ok (.iload_n 1, 1) := by decide +kernel
theorem dX5_rulesThatFit_29 : decode cX5_rulesThatFit 29 = .ok (.aload_n 0, 1) := by decide +kernel
theorem dX5_rulesThatFit_30 : decode cX5_rulesThatFit 30 = .ok (.iload_n 2, 1) := by decide +kernel
theorem dX5_rulesThatFit_31 : decode cX5_rulesThatFit 31 = .ok (.invokevirtual 89, 3) := by decide +kernel
theorem dX5_rulesThatFit_34 : decode cX5_rulesThatFit 34 = .ok (.ior, 1) := by decide +kernel
theorem dX5_rulesThatFit_35 : decode cX5_rulesThatFit 35 = .ok (.istore_n 1, 1) := by decide +kernel
theorem dX5_rulesThatFit_36 : decode cX5_rulesThatFit 36 = .ok (.iinc 2 1, 3) := by decide +kernel
theorem dX5_rulesThatFit_39 : decode cX5_rulesThatFit 39 = .ok (.goto (-24), 3) := by decide +kernel
theorem dX5_rulesThatFit_42 : decode cX5_rulesThatFit 42 = .ok (.iload_n 1, 1) := by decide +kernel
theorem dX5_rulesThatFit_43 : decode cX5_rulesThatFit 43 = .ok (.ireturn, 1) := by decide +kernel
theorem dX5_kindsThatFit_0 : decode cX5_kindsThatFit 0 = .ok (.aload_n 0, 1) := by decide +kernel
theorem dX5_kindsThatFit_1 : decode cX5_kindsThatFit 1 = .ok (.getfield 12, 3) := by decide +kernel
theorem dX5_kindsThatFit_4 : decode cX5_kindsThatFit 4 = .ok (.aload_n 0, 1) := by decide +kernel
theorem dX5_kindsThatFit_5 : decode cX5_kindsThatFit 5 = .ok (.getfield 27, 3) := by decide +kernel
theorem dX5_kindsThatFit_8 : decode cX5_kindsThatFit 8 = .ok (.invokevirtual 34, 3) := by decide +kernel
theorem dX5_kindsThatFit_11 : decode cX5_kindsThatFit 11 = .ok (.iconst 0, 1) := by decide +kernel
theorem dX5_kindsThatFit_12 : decode cX5_kindsThatFit 12 = .ok (.istore_n 2, 1) := by decide +kernel
theorem dX5_kindsThatFit_13 : decode cX5_kindsThatFit 13 = .ok (.iconst 0, 1) := by decide +kernel
theorem dX5_kindsThatFit_14 : decode cX5_kindsThatFit 14 = .ok (.istore_n 3, 1) := by decide +kernel
theorem dX5_kindsThatFit_15 : decode cX5_kindsThatFit 15 = .ok (.iload_n 3, 1) := by decide +kernel
theorem dX5_kindsThatFit_16 : decode cX5_kindsThatFit 16 = .ok (.iconst 3, 1) := by decide +kernel
theorem dX5_kindsThatFit_17 : decode cX5_kindsThatFit 17 = .ok (.if_icmp .ge 27, 3) := by decide +kernel
theorem dX5_kindsThatFit_20 : decode cX5_kindsThatFit 20 = .ok (.aload_n 0, 1) := by decide +kernel
theorem dX5_kindsThatFit_21 : decode cX5_kindsThatFit 21 = .ok (.getfield 12, 3) := by decide +kernel
theorem dX5_kindsThatFit_24 : decode cX5_kindsThatFit 24 = .ok (.getfield 92, 3) := by decide +kernel
theorem dX5_kindsThatFit_27 : decode cX5_kindsThatFit 27 = .ok (.iload_n 1, 1) := by decide +kernel
theorem dX5_kindsThatFit_28 : decode cX5_kindsThatFit 28 = .ok (.iload_n 3, 1) := by decide +kernel
theorem dX5_kindsThatFit_29 : decode cX5_kindsThatFit 29 = .ok (.iastore, 1) := by decide +kernel
theorem dX5_kindsThatFit_30 : decode cX5_kindsThatFit 30 = .ok (.iload_n 2, 1) := by decide +kernel
theorem dX5_kindsThatFit_31 : decode cX5_kindsThatFit 31 = .ok (.aload_n 0, 1) := by decide +kernel
theorem dX5_kindsThatFit_32 : decode cX5_kindsThatFit 32 = .ok (.iload_n 3, 1) := by decide +kernel
theorem dX5_kindsThatFit_33 : decode cX5_kindsThatFit 33 = .ok (.invokevirtual 89, 3) := by decide +kernel
theorem dX5_kindsThatFit_36 : decode cX5_kindsThatFit 36 = .ok (.ior, 1) := by decide +kernel
theorem dX5_kindsThatFit_37 : decode cX5_kindsThatFit 37 = .ok (.istore_n 2, 1) := by decide +kernel
theorem dX5_kindsThatFit_38 : decode cX5_kindsThatFit 38 = .ok (.iinc 3 1, 3) := by decide +kernel
theorem dX5_kindsThatFit_41 : decode cX5_kindsThatFit 41 = .ok (.goto (-26), 3) := by decide +kernel
theorem dX5_kindsThatFit_44 : decode cX5_kindsThatFit 44 = .ok (.iload_n 2, 1) := by decide +kernel
theorem dX5_kindsThatFit_45 : decode cX5_kindsThatFit 45 = .ok (.ireturn, 1) := by decide +kernel
theorem dX5_depthsThatFit_0 : decode cX5_depthsThatFit 0 = .ok (.aload_n 0, 1) := by decide +kernel
theorem dX5_depthsThatFit_1 : decode cX5_depthsThatFit 1 = .ok (.getfield 12, 3) := by decide +kernel
theorem dX5_depthsThatFit_4 : decode cX5_depthsThatFit 4 = .ok (.aload_n 0, 1) := by decide +kernel
theorem dX5_depthsThatFit_5 : decode cX5_depthsThatFit 5 = .ok (.getfield 27, 3) := by decide +kernel
theorem dX5_depthsThatFit_8 : decode cX5_depthsThatFit 8 = .ok (.invokevirtual 34, 3) := by decide +kernel
theorem dX5_depthsThatFit_11 : decode cX5_depthsThatFit 11 = .ok (.iconst 0, 1) := by decide +kernel
theorem dX5_depthsThatFit_12 : decode cX5_depthsThatFit 12 = .ok (.istore_n 2, 1) := by decide +kernel
theorem dX5_depthsThatFit_13 : decode cX5_depthsThatFit 13 = .ok (.iconst 0, 1) := by decide +kernel
theorem dX5_depthsThatFit_14 : decode cX5_depthsThatFit 14 = .ok (.istore_n 3, 1) := by decide +kernel
theorem dX5_depthsThatFit_15 : decode cX5_depthsThatFit 15 = .ok (.iload_n 3, 1) := by decide +kernel
theorem dX5_depthsThatFit_16 : decode cX5_depthsThatFit 16 = .ok (.bipush 9, 2) := by decide +kernel
theorem dX5_depthsThatFit_18 : decode cX5_depthsThatFit 18 = .ok (.if_icmp .gt 27, 3) := by decide +kernel
theorem dX5_depthsThatFit_21 : decode cX5_depthsThatFit 21 = .ok (.aload_n 0, 1) := by decide +kernel
theorem dX5_depthsThatFit_22 : decode cX5_depthsThatFit 22 = .ok (.getfield 12, 3) := by decide +kernel
theorem dX5_depthsThatFit_25 : decode cX5_depthsThatFit 25 = .ok (.getfield 52, 3) := by decide +kernel
theorem dX5_depthsThatFit_28 : decode cX5_depthsThatFit 28 = .ok (.iload_n 1, 1) := by decide +kernel
theorem dX5_depthsThatFit_29 : decode cX5_depthsThatFit 29 = .ok (.iload_n 3, 1) := by decide +kernel
theorem dX5_depthsThatFit_30 : decode cX5_depthsThatFit 30 = .ok (.iastore, 1) := by decide +kernel
theorem dX5_depthsThatFit_31 : decode cX5_depthsThatFit 31 = .ok (.iload_n 2, 1) := by decide +kernel
theorem dX5_depthsThatFit_32 : decode cX5_depthsThatFit 32 = .ok (.aload_n 0, 1) := by decide +kernel
theorem dX5_depthsThatFit_33 : decode cX5_depthsThatFit 33 = .ok (.iload_n 3, 1) := by decide +kernel
theorem dX5_depthsThatFit_34 : decode cX5_depthsThatFit 34 = .ok (.invokevirtual 89, 3) := by decide +kernel
theorem dX5_depthsThatFit_37 : decode cX5_depthsThatFit 37 = .ok (.ior, 1) := by decide +kernel
theorem dX5_depthsThatFit_38 : decode cX5_depthsThatFit 38 = .ok (.istore_n 2, 1) := by decide +kernel
theorem dX5_depthsThatFit_39 : decode cX5_depthsThatFit 39 = .ok (.iinc 3 1, 3) := by decide +kernel
theorem dX5_depthsThatFit_42 : decode cX5_depthsThatFit 42 = .ok (.goto (-27), 3) := by decide +kernel
theorem dX5_depthsThatFit_45 : decode cX5_depthsThatFit 45 = .ok (.iload_n 2, 1) := by decide +kernel
theorem dX5_depthsThatFit_46 : decode cX5_depthsThatFit 46 = .ok (.ireturn, 1) := by decide +kernel
theorem dX5_fallsThatFit_0 : decode cX5_fallsThatFit 0 = .ok (.aload_n 0, 1) := by decide +kernel
theorem dX5_fallsThatFit_1 : decode cX5_fallsThatFit 1 = .ok (.getfield 12, 3) := by decide +kernel
theorem dX5_fallsThatFit_4 : decode cX5_fallsThatFit 4 = .ok (.aload_n 0, 1) := by decide +kernel
theorem dX5_fallsThatFit_5 : decode cX5_fallsThatFit 5 = .ok (.getfield 27, 3) := by decide +kernel
theorem dX5_fallsThatFit_8 : decode cX5_fallsThatFit 8 = .ok (.invokevirtual 34, 3) := by decide +kernel
theorem dX5_fallsThatFit_11 : decode cX5_fallsThatFit 11 = .ok (.iconst 0, 1) := by decide +kernel
theorem dX5_fallsThatFit_12 : decode cX5_fallsThatFit 12 = .ok (.istore_n 2, 1) := by decide +kernel
theorem dX5_fallsThatFit_13 : decode cX5_fallsThatFit 13 = .ok (.iconst 0, 1) := by decide +kernel
theorem dX5_fallsThatFit_14 : decode cX5_fallsThatFit 14 = .ok (.istore_n 3, 1) := by decide +kernel
theorem dX5_fallsThatFit_15 : decode cX5_fallsThatFit 15 = .ok (.iload_n 3, 1) := by decide +kernel
theorem dX5_fallsThatFit_16 : decode cX5_fallsThatFit 16 = .ok (.iconst 5, 1) := by decide +kernel
theorem dX5_fallsThatFit_17 : decode cX5_fallsThatFit 17 = .ok (.if_icmp .gt 27, 3) := by decide +kernel
theorem dX5_fallsThatFit_20 : decode cX5_fallsThatFit 20 = .ok (.aload_n 0, 1) := by decide +kernel
theorem dX5_fallsThatFit_21 : decode cX5_fallsThatFit 21 = .ok (.getfield 12, 3) := by decide +kernel
theorem dX5_fallsThatFit_24 : decode cX5_fallsThatFit 24 = .ok (.getfield 95, 3) := by decide +kernel
theorem dX5_fallsThatFit_27 : decode cX5_fallsThatFit 27 = .ok (.iload_n 1, 1) := by decide +kernel
theorem dX5_fallsThatFit_28 : decode cX5_fallsThatFit 28 = .ok (.iload_n 3, 1) := by decide +kernel
theorem dX5_fallsThatFit_29 : decode cX5_fallsThatFit 29 = .ok (.iastore, 1) := by decide +kernel
theorem dX5_fallsThatFit_30 : decode cX5_fallsThatFit 30 = .ok (.iload_n 2, 1) := by decide +kernel
theorem dX5_fallsThatFit_31 : decode cX5_fallsThatFit 31 = .ok (.aload_n 0, 1) := by decide +kernel
theorem dX5_fallsThatFit_32 : decode cX5_fallsThatFit 32 = .ok (.iload_n 3, 1) := by decide +kernel
theorem dX5_fallsThatFit_33 : decode cX5_fallsThatFit 33 = .ok (.invokevirtual 89, 3) := by decide +kernel
theorem dX5_fallsThatFit_36 : decode cX5_fallsThatFit 36 = .ok (.ior, 1) := by decide +kernel
theorem dX5_fallsThatFit_37 : decode cX5_fallsThatFit 37 = .ok (.istore_n 2, 1) := by decide +kernel
theorem dX5_fallsThatFit_38 : decode cX5_fallsThatFit 38 = .ok (.iinc 3 1, 3) := by decide +kernel
theorem dX5_fallsThatFit_41 : decode cX5_fallsThatFit 41 = .ok (.goto (-26), 3) := by decide +kernel
theorem dX5_fallsThatFit_44 : decode cX5_fallsThatFit 44 = .ok (.iload_n 2, 1) := by decide +kernel
theorem dX5_fallsThatFit_45 : decode cX5_fallsThatFit 45 = .ok (.ireturn, 1) := by decide +kernel
theorem dX5_bitIfFit_0 : decode cX5_bitIfFit 0 = .ok (.aload_n 0, 1) := by decide +kernel
theorem dX5_bitIfFit_1 : decode cX5_bitIfFit 1 = .ok (.getfield 23, 3) := by decide +kernel
theorem dX5_bitIfFit_4 : decode cX5_bitIfFit 4 = .ok (.aload_n 0, 1) := by decide +kernel
theorem dX5_bitIfFit_5 : decode cX5_bitIfFit 5 = .ok (.getfield 12, 3) := by decide +kernel
theorem dX5_bitIfFit_8 : decode cX5_bitIfFit 8 = .ok (.getfield 98, 3) := by decide +kernel
theorem dX5_bitIfFit_11 : decode cX5_bitIfFit 11 = .ok (.invokevirtual 74, 3) := by decide +kernel
theorem dX5_bitIfFit_14 : decode cX5_bitIfFit 14 = .ok (.aload_n 0, 1) := by decide +kernel
theorem dX5_bitIfFit_15 : decode cX5_bitIfFit 15 = .ok (.getfield 30, 3) := by decide +kernel
theorem dX5_bitIfFit_18 : decode cX5_bitIfFit 18 = .ok (.aload_n 0, 1) := by decide +kernel
theorem dX5_bitIfFit_19 : decode cX5_bitIfFit 19 = .ok (.getfield 23, 3) := by decide +kernel
theorem dX5_bitIfFit_22 : decode cX5_bitIfFit 22 = .ok (.invokevirtual 100, 3) := by decide +kernel
theorem dX5_bitIfFit_25 : decode cX5_bitIfFit 25 = .ok (.ifCond .eq 9, 3) := by decide +kernel
theorem dX5_bitIfFit_28 : decode cX5_bitIfFit 28 = .ok (.iconst 1, 1) := by decide +kernel
theorem dX5_bitIfFit_29 : decode cX5_bitIfFit 29 = .ok (.iload_n 1, 1) := by decide +kernel
theorem dX5_bitIfFit_30 : decode cX5_bitIfFit 30 = .ok (.ishl, 1) := by decide +kernel
theorem dX5_bitIfFit_31 : decode cX5_bitIfFit 31 = .ok (.goto 4, 3) := by decide +kernel
theorem dX5_bitIfFit_34 : decode cX5_bitIfFit 34 = .ok (.iconst 0, 1) := by decide +kernel
theorem dX5_bitIfFit_35 : decode cX5_bitIfFit 35 = .ok (.ireturn, 1) := by decide +kernel
theorem dX5_windsThatMeet_0 : decode cX5_windsThatMeet 0 = .ok (.aload_n 0, 1) := by decide +kernel
theorem dX5_windsThatMeet_1 : decode cX5_windsThatMeet 1 = .ok (.getfield 12, 3) := by decide +kernel
theorem dX5_windsThatMeet_4 : decode cX5_windsThatMeet 4 = .ok (.aload_n 0, 1) := by decide +kernel
theorem dX5_windsThatMeet_5 : decode cX5_windsThatMeet 5 = .ok (.getfield 27, 3) := by decide +kernel
theorem dX5_windsThatMeet_8 : decode cX5_windsThatMeet 8 = .ok (.invokevirtual 34, 3) := by decide +kernel
theorem dX5_windsThatMeet_11 : decode cX5_windsThatMeet 11 = .ok (.aload_n 0, 1) := by decide +kernel
theorem dX5_windsThatMeet_12 : decode cX5_windsThatMeet 12 = .ok (.getfield 23, 3) := by decide +kernel
theorem dX5_windsThatMeet_15 : decode cX5_windsThatMeet 15 = .ok (.invokevirtual 106, 3) := by decide +kernel
theorem dX5_windsThatMeet_18 : decode cX5_windsThatMeet 18 = .ok (.aload_n 0, 1) := by decide +kernel
theorem dX5_windsThatMeet_19 : decode cX5_windsThatMeet 19 = .ok (.getfield 23, 3) := by decide +kernel
theorem dX5_windsThatMeet_22 : decode cX5_windsThatMeet 22 = .ok (.iload_n 1, 1) := by decide +kernel
theorem dX5_windsThatMeet_23 : decode cX5_windsThatMeet 23 = .ok (.iconst 0, 1) := by decide +kernel
theorem dX5_windsThatMeet_24 : decode cX5_windsThatMeet 24 = .ok (.iload_n 2, 1) := by decide +kernel
theorem dX5_windsThatMeet_25 : decode cX5_windsThatMeet 25 = .ok (.invokestatic 109, 3) := by decide +kernel
theorem dX5_windsThatMeet_28 : decode cX5_windsThatMeet 28 = .ok (.ireturn, 1) := by decide +kernel
theorem dX5_meetingWinds_0 : decode cX5_meetingWinds 0 = .ok (.iload_n 2, 1) := by decide +kernel
theorem dX5_meetingWinds_1 : decode cX5_meetingWinds 1 = .ok (.iload_n 3, 1) := by decide +kernel
theorem dX5_meetingWinds_2 : decode cX5_meetingWinds 2 = .ok (.if_icmp .lt 5, 3) := by decide +kernel
theorem dX5_meetingWinds_5 : decode cX5_meetingWinds 5 = .ok (.iconst 0, 1) := by decide +kernel
theorem dX5_meetingWinds_6 : decode cX5_meetingWinds 6 = .ok (.ireturn, 1) := by decide +kernel
theorem dX5_meetingWinds_7 : decode cX5_meetingWinds 7 = .ok (.iconst 0, 1) := by decide +kernel
theorem dX5_meetingWinds_8 : decode cX5_meetingWinds 8 = .ok (.istore 4, 2) := by decide +kernel
theorem dX5_meetingWinds_10 : decode cX5_meetingWinds 10 = .ok (.iconst 0, 1) := by decide +kernel
theorem dX5_meetingWinds_11 : decode cX5_meetingWinds 11 = .ok (.istore 5, 2) := by decide +kernel
theorem dX5_meetingWinds_13 : decode cX5_meetingWinds 13 = .ok (.iload 5, 2) := by decide +kernel
theorem dX5_meetingWinds_15 : decode cX5_meetingWinds 15 = .ok (.iconst 2, 1) := by decide +kernel
theorem dX5_meetingWinds_16 : decode cX5_meetingWinds 16 = .ok (.if_icmp .ge 51, 3) := by decide +kernel
theorem dX5_meetingWinds_19 : decode cX5_meetingWinds 19 = .ok (.aload_n 0, 1) := by decide +kernel
theorem dX5_meetingWinds_20 : decode cX5_meetingWinds 20 = .ok (.iload_n 2, 1) := by decide +kernel
theorem dX5_meetingWinds_21 : decode cX5_meetingWinds 21 = .ok (.iload 5, 2) := by decide +kernel
theorem dX5_meetingWinds_23 : decode cX5_meetingWinds 23 = .ok (.invokevirtual 113, 3) := by decide +kernel
theorem dX5_meetingWinds_26 : decode cX5_meetingWinds 26 = .ok (.iload 4, 2) := by decide +kernel
theorem dX5_meetingWinds_28 : decode cX5_meetingWinds 28 = .ok (.aload_n 0, 1) := by decide +kernel
theorem dX5_meetingWinds_29 : decode cX5_meetingWinds 29 = .ok (.iload_n 1, 1) := by decide +kernel
theorem dX5_meetingWinds_30 : decode cX5_meetingWinds 30 = .ok (.iload_n 2, 1) := by decide +kernel
theorem dX5_meetingWinds_31 : decode cX5_meetingWinds 31 = .ok (.iconst 1, 1) := by decide +kernel
theorem dX5_meetingWinds_32 : decode cX5_meetingWinds 32 = .ok (.iadd, 1) := by decide +kernel
theorem dX5_meetingWinds_33 : decode cX5_meetingWinds 33 = .ok (.invokevirtual 117, 3) := by decide +kernel
theorem dX5_meetingWinds_36 : decode cX5_meetingWinds 36 = .ok (.ifCond .eq 13, 3) := by decide +kernel
theorem dX5_meetingWinds_39 : decode cX5_meetingWinds 39 = .ok (.iconst 1, 1) := by decide +kernel
theorem dX5_meetingWinds_40 : decode cX5_meetingWinds 40 = .ok (.iload_n 3, 1) := by decide +kernel
theorem dX5_meetingWinds_41 : decode cX5_meetingWinds 41 = .ok (.iload_n 2, 1) := by decide +kernel
theorem dX5_meetingWinds_42 : decode cX5_meetingWinds 42 = .ok (.isub, 1) := by decide +kernel
theorem dX5_meetingWinds_43 : decode cX5_meetingWinds 43 = .ok (.iconst 1, 1) := by decide +kernel
theorem dX5_meetingWinds_44 : decode cX5_meetingWinds 44 = .ok (.isub, 1) := by decide +kernel
theorem dX5_meetingWinds_45 : decode cX5_meetingWinds 45 = .ok (.ishl, 1) := by decide +kernel
theorem dX5_meetingWinds_46 : decode cX5_meetingWinds 46 = .ok (.goto 12, 3) := by decide +kernel
theorem dX5_meetingWinds_49 : decode cX5_meetingWinds 49 = .ok (.aload_n 0, 1) := by decide +kernel
theorem dX5_meetingWinds_50 : decode cX5_meetingWinds 50 = .ok (.iload_n 1, 1) := by decide +kernel
theorem dX5_meetingWinds_51 : decode cX5_meetingWinds 51 = .ok (.iload_n 2, 1) := by decide +kernel
theorem dX5_meetingWinds_52 : decode cX5_meetingWinds 52 = .ok (.iconst 1, 1) := by decide +kernel
theorem dX5_meetingWinds_53 : decode cX5_meetingWinds 53 = .ok (.iadd, 1) := by decide +kernel
theorem dX5_meetingWinds_54 : decode cX5_meetingWinds 54 = .ok (.iload_n 3, 1) := by decide +kernel
theorem dX5_meetingWinds_55 : decode cX5_meetingWinds 55 = .ok (.invokestatic 109, 3) := by decide +kernel
theorem dX5_meetingWinds_58 : decode cX5_meetingWinds 58 = .ok (.iadd, 1) := by decide +kernel
theorem dX5_meetingWinds_59 : decode cX5_meetingWinds 59 = .ok (.istore 4, 2) := by decide +kernel
theorem dX5_meetingWinds_61 : decode cX5_meetingWinds 61 = .ok (.iinc 5 1, 3) := by decide +kernel
theorem dX5_meetingWinds_64 : decode cX5_meetingWinds 64 = .ok (.goto (-51), 3) := by decide +kernel
theorem dX5_meetingWinds_67 : decode cX5_meetingWinds 67 = .ok (.iload 4, 2) := by decide +kernel
theorem dX5_meetingWinds_69 : decode cX5_meetingWinds 69 = .ok (.ireturn, 1) := by decide +kernel
theorem dX6_init_0 : decode cX6_init 0 = .ok (.aload_n 0, 1) := by decide +kernel
theorem dX6_init_1 : decode cX6_init 1 = .ok (.invokespecial 3, 3) := by decide +kernel
theorem dX6_init_4 : decode cX6_init 4 = .ok (.aload_n 0, 1) := by decide +kernel
theorem dX6_init_5 : decode cX6_init 5 = .ok (.iconst 4, 1) := by decide +kernel
theorem dX6_init_6 : decode cX6_init 6 = .ok (.anewarray 11, 3) := by decide +kernel
theorem dX6_init_9 : decode cX6_init 9 = .ok (.putfield 13, 3) := by decide +kernel
theorem dX6_init_12 : decode cX6_init 12 = .ok (.aload_n 0, 1) := by decide +kernel
theorem dX6_init_13 : decode cX6_init 13 = .ok (.new 17, 3) := by decide +kernel
theorem dX6_init_16 : decode cX6_init 16 = .ok (.dup, 1) := by decide +kernel
theorem dX6_init_17 : decode cX6_init 17 = .ok (.invokespecial 19, 3) := by decide +kernel
theorem dX6_init_20 : decode cX6_init 20 = .ok (.putfield 20, 3) := by decide +kernel
theorem dX6_init_23 : decode cX6_init 23 = .ok (.aload_n 0, 1) := by decide +kernel
theorem dX6_init_24 : decode cX6_init 24 = .ok (.new 17, 3) := by decide +kernel
theorem dX6_init_27 : decode cX6_init 27 = .ok (.dup, 1) := by decide +kernel
theorem dX6_init_28 : decode cX6_init 28 = .ok (.invokespecial 19, 3) := by decide +kernel
theorem dX6_init_31 : decode cX6_init 31 = .ok (.putfield 24, 3) := by decide +kernel
theorem dX6_init_34 : decode cX6_init 34 = .ok (.aload_n 0, 1) := by decide +kernel
theorem dX6_init_35 : decode cX6_init 35 = .ok (.new 27, 3) := by decide +kernel
theorem dX6_init_38 : decode cX6_init 38 = .ok (.dup, 1) := by decide +kernel
theorem dX6_init_39 : decode cX6_init 39 = .ok (.aload_n 0, 1) := by decide +kernel
theorem dX6_init_40 : decode cX6_init 40 = .ok (.getfield 20, 3) := by decide +kernel
theorem dX6_init_43 : decode cX6_init 43 = .ok (.invokespecial 29, 3) := by decide +kernel
theorem dX6_init_46 : decode cX6_init 46 = .ok (.putfield 32, 3) := by decide +kernel
theorem dX6_init_49 : decode cX6_init 49 = .ok (.aload_n 0, 1) := by decide +kernel
theorem dX6_init_50 : decode cX6_init 50 = .ok (.new 36, 3) := by decide +kernel
theorem dX6_init_53 : decode cX6_init 53 = .ok (.dup, 1) := by decide +kernel
theorem dX6_init_54 : decode cX6_init 54 = .ok (.invokespecial 38, 3) := by decide +kernel
theorem dX6_init_57 : decode cX6_init 57 = .ok (.putfield 39, 3) := by decide +kernel
theorem dX6_init_60 : decode cX6_init 60 = .ok (.aload_n 0, 1) := by decide +kernel
theorem dX6_init_61 : decode cX6_init 61 = .ok (.new 43, 3) := by decide +kernel
theorem dX6_init_64 : decode cX6_init 64 = .ok (.dup, 1) := by decide +kernel
theorem dX6_init_65 : decode cX6_init 65 = .ok (.aload_n 0, 1) := by decide +kernel
theorem dX6_init_66 : decode cX6_init 66 = .ok (.getfield 20, 3) := by decide +kernel
theorem dX6_init_69 : decode cX6_init 69 = .ok (.aload_n 0, 1) := by decide +kernel
theorem dX6_init_70 : decode cX6_init 70 = .ok (.getfield 39, 3) := by decide +kernel
theorem dX6_init_73 : decode cX6_init 73 = .ok (.invokespecial 45, 3) := by decide +kernel
theorem dX6_init_76 : decode cX6_init 76 = .ok (.putfield 48, 3) := by decide +kernel
theorem dX6_init_79 : decode cX6_init 79 = .ok (.aload_n 0, 1) := by decide +kernel
theorem dX6_init_80 : decode cX6_init 80 = .ok (.iconst 0, 1) := by decide +kernel
theorem dX6_init_81 : decode cX6_init 81 = .ok (.putfield 52, 3) := by decide +kernel
theorem dX6_init_84 : decode cX6_init 84 = .ok (.aload_n 0, 1) := by decide +kernel
theorem dX6_init_85 : decode cX6_init 85 = .ok (.iconst 0, 1) := by decide +kernel
theorem dX6_init_86 : decode cX6_init 86 = .ok (.putfield 56, 3) := by decide +kernel
theorem dX6_init_89 : decode cX6_init 89 = .ok (.iconst 0, 1) := by decide +kernel
theorem dX6_init_90 : decode cX6_init 90 = .ok (.istore_n 1, 1) := by decide +kernel
theorem dX6_init_91 : decode cX6_init 91 = .ok (.iload_n 1, 1) := by decide +kernel
theorem dX6_init_92 : decode cX6_init 92 = .ok (.iconst 4, 1) := by decide +kernel
theorem dX6_init_93 : decode cX6_init 93 = .ok (.if_icmp .ge 22, 3) := by decide +kernel
theorem dX6_init_96 : decode cX6_init 96 = .ok (.aload_n 0, 1) := by decide +kernel
theorem dX6_init_97 : decode cX6_init 97 = .ok (.getfield 13, 3) := by decide +kernel
theorem dX6_init_100 : decode cX6_init 100 = .ok (.iload_n 1, 1) := by decide +kernel
theorem dX6_init_101 : decode cX6_init 101 = .ok (.new 11, 3) := by decide +kernel
theorem dX6_init_104 : decode cX6_init 104 = .ok (.dup, 1) := by decide +kernel
theorem dX6_init_105 : decode cX6_init 105 = .ok (.invokespecial 59, 3) := by decide +kernel
theorem dX6_init_108 : decode cX6_init 108 = .ok (.aastore, 1) := by decide +kernel
theorem dX6_init_109 : decode cX6_init 109 = .ok (.iinc 1 1, 3) := by decide +kernel
theorem dX6_init_112 : decode cX6_init 112 = .ok (.goto (-21), 3) := by decide +kernel
theorem dX6_init_115 : decode cX6_init 115 = .ok (.return_, 1) := by decide +kernel
theorem dX6_ridge_0 : decode cX6_ridge 0 = .ok (.aload_n 0, 1) := by decide +kernel
theorem dX6_ridge_1 : decode cX6_ridge 1 = .ok (.iconst 0, 1) := by decide +kernel
theorem dX6_ridge_2 : decode cX6_ridge 2 = .ok (.putfield 52, 3) := by decide +kernel
theorem dX6_ridge_5 : decode cX6_ridge 5 = .ok (.iload_n 1, 1) := by decide +kernel
theorem dX6_ridge_6 : decode cX6_ridge 6 = .ok (.invokestatic 60, 3) := by decide +kernel
theorem dX6_ridge_9 : decode cX6_ridge 9 = .ok (.ifCond .ne 5, 3) := by decide +kernel
theorem dX6_ridge_12 : decode cX6_ridge 12 = .ok (.iconst (-1), 1) := by decide +kernel
theorem dX6_ridge_13 : decode cX6_ridge 13 = .ok (.ireturn, 1) := by decide +kernel
theorem dX6_ridge_14 : decode cX6_ridge 14 = .ok (.iload_n 2, 1) := by decide +kernel
theorem dX6_ridge_15 : decode cX6_ridge 15 = .ok (.invokestatic 64, 3) := by decide +kernel
theorem dX6_ridge_18 : decode cX6_ridge 18 = .ok (.ifCond .ne 6, 3) := by decide +kernel
theorem dX6_ridge_21 : decode cX6_ridge 21 = .ok (.bipush (-2), 2) := by decide +kernel
theorem dX6_ridge_23 : decode cX6_ridge 23 = .ok (.ireturn, 1) := by decide +kernel
theorem dX6_ridge_24 : decode cX6_ridge 24 = .ok (.aload_n 0, 1) := by decide +kernel
theorem dX6_ridge_25 : decode cX6_ridge 25 = .ok (.getfield 13, 3) := by decide +kernel
theorem dX6_ridge_28 : decode cX6_ridge 28 = .ok (.iload_n 1, 1) := by decide +kernel
theorem dX6_ridge_29 : decode cX6_ridge 29 = .ok (.aaload, 1) := by decide +kernel
theorem dX6_ridge_30 : decode cX6_ridge 30 = .ok (.iload_n 2, 1) := by decide +kernel
theorem dX6_ridge_31 : decode cX6_ridge 31 = .ok (.iload_n 3, 1) := by decide +kernel
theorem dX6_ridge_32 : decode cX6_ridge 32 = .ok (.iload 4, 2) := by decide +kernel
theorem dX6_ridge_34 : decode cX6_ridge 34 = .ok (.invokevirtual 67, 3) := by decide +kernel
theorem dX6_ridge_37 : decode cX6_ridge 37 = .ok (.istore 5, 2) := by decide +kernel
theorem dX6_ridge_39 : decode cX6_ridge 39 = .ok (.iload 5, 2) := by decide +kernel
theorem dX6_ridge_41 : decode cX6_ridge 41 = .ok (.ifCond .eq 10, 3) := by decide +kernel
theorem dX6_ridge_44 : decode cX6_ridge 44 = .ok (.aload_n 0, 1) := by decide +kernel
theorem dX6_ridge_45 : decode cX6_ridge 45 = .ok (.iload 5, 2) := by decide +kernel
theorem dX6_ridge_47 : decode cX6_ridge 47 = .ok (.invokevirtual 71, 3) := by decide +kernel
theorem dX6_ridge_50 : decode cX6_ridge 50 = .ok (.ireturn, 1) := by decide +kernel
theorem dX6_ridge_51 : decode cX6_ridge 51 = .ok (.new 75, 3) := by decide +kernel
theorem dX6_ridge_54 : decode cX6_ridge 54 = .ok (.dup, 1) := by decide +kernel
theorem dX6_ridge_55 : decode cX6_ridge 55 = .ok (.aload_n 0, 1) := by decide +kernel
theorem dX6_ridge_56 : decode cX6_ridge 56 = .ok (.getfield 13, 3) := by decide +kernel
theorem dX6_ridge_59 : decode cX6_ridge 59 = .ok (.iload_n 1, 1) := by decide +kernel
theorem dX6_ridge_60 : decode cX6_ridge 60 = .ok (.aaload, 1) := by decide +kernel
theorem dX6_ridge_61 : decode cX6_ridge 61 = .ok (.iload_n 3, 1) := by decide +kernel
theorem dX6_ridge_62 : decode cX6_ridge 62 = .ok (.iload 4, 2) := by decide +kernel
theorem dX6_ridge_64 : decode cX6_ridge 64 = .ok (.invokespecial 77, 3) := by decide +kernel
theorem dX6_ridge_67 : decode cX6_ridge 67 = .ok (.astore 6, 2) := by decide +kernel
theorem dX6_ridge_69 : decode cX6_ridge 69 = .ok (.aload 6, 2) := by decide +kernel
theorem dX6_ridge_71 : decode cX6_ridge 71 = .ok (.aload_n 0, 1) := by decide +kernel
theorem dX6_ridge_72 : decode cX6_ridge 72 = .ok (.getfield 24, 3) := by decide +kernel
theorem dX6_ridge_75 : decode cX6_ridge 75 = .ok (.invokevirtual 80, 3) := by decide +kernel
theorem dX6_ridge_78 : decode cX6_ridge 78 = .ok (.ifCond .ne 12, 3) := by decide +kernel
theorem dX6_ridge_81 : decode cX6_ridge 81 = .ok (.bipush (-100), 2) := by decide +kernel
theorem dX6_ridge_83 : decode cX6_ridge 83 = .ok (.aload 6, 2) := by decide +kernel
theorem dX6_ridge_85 : decode cX6_ridge 85 = .ok (.invokevirtual 84, 3) := by decide +kernel
theorem dX6_ridge_88 : decode cX6_ridge 88 = .ok (.isub, 1) := by decide +kernel
theorem dX6_ridge_89 : decode cX6_ridge 89 = .ok (.ireturn, 1) := by decide +kernel
theorem dX6_ridge_90 : decode cX6_ridge 90 = .ok (.aload_n 0, 1) := by decide +kernel
theorem dX6_ridge_91 : decode cX6_ridge 91 = .ok (.getfield 20, 3) := by decide +kernel
theorem dX6_ridge_94 : decode cX6_ridge 94 = .ok (.aload_n 0, 1) := by decide +kernel
theorem dX6_ridge_95 : decode cX6_ridge 95 = .ok (.getfield 24, 3) := by decide +kernel
theorem dX6_ridge_98 : decode cX6_ridge 98 = .ok (.invokevirtual 88, 3) := by decide +kernel
theorem dX6_ridge_101 : decode cX6_ridge 101 = .ok (.aload_n 0, 1) := by decide +kernel
theorem dX6_ridge_102 : decode cX6_ridge 102 = .ok (.getfield 39, 3) := by decide +kernel
theorem dX6_ridge_105 : decode cX6_ridge 105 = .ok (.invokevirtual 91, 3) := by decide +kernel
theorem dX6_ridge_108 : decode cX6_ridge 108 = .ok (.aload_n 0, 1) := by decide +kernel
theorem dX6_ridge_109 : decode cX6_ridge 109 = .ok (.getfield 20, 3) := by decide +kernel
theorem dX6_ridge_112 : decode cX6_ridge 112 = .ok (.getfield 94, 3) := by decide +kernel
theorem dX6_ridge_115 : decode cX6_ridge 115 = .ok (.ireturn, 1) := by decide +kernel
theorem dX6_ofInn_0 : decode cX6_ofInn 0 = .ok (.aload_n 0, 1) := by decide +kernel
theorem dX6_ofInn_1 : decode cX6_ofInn 1 = .ok (.getfield 20, 3) := by decide +kernel
theorem dX6_ofInn_4 : decode cX6_ofInn 4 = .ok (.iload_n 1, 1) := by decide +kernel
theorem dX6_ofInn_5 : decode cX6_ofInn 5 = .ok (.invokevirtual 97, 3) := by decide +kernel
theorem dX6_ofInn_8 : decode cX6_ofInn 8 = .ok (.ifCond .ne 5, 3) := by decide +kernel
theorem dX6_ofInn_11 : decode cX6_ofInn 11 = .ok (.iconst (-1), 1) := by decide +kernel
theorem dX6_ofInn_12 : decode cX6_ofInn 12 = .ok (.ireturn, 1) := by decide +kernel
theorem dX6_ofInn_13 : decode cX6_ofInn 13 = .ok (.iload_n 2, 1) := by decide +kernel
theorem dX6_ofInn_14 : decode cX6_ofInn 14 = .ok (.tableswitch 64 0 2 #[26, 36, 46], 26) := by decide +kernel
theorem dX6_ofInn_40 : decode cX6_ofInn 40 = .ok (.aload_n 0, 1) := by decide +kernel
theorem dX6_ofInn_41 : decode cX6_ofInn 41 = .ok (.getfield 20, 3) := by decide +kernel
theorem dX6_ofInn_44 : decode cX6_ofInn 44 = .ok (.getfield 100, 3) := by decide +kernel
theorem dX6_ofInn_47 : decode cX6_ofInn 47 = .ok (.iload_n 1, 1) := by decide +kernel
theorem dX6_ofInn_48 : decode cX6_ofInn 48 = .ok (.iaload, 1) := by decide +kernel
theorem dX6_ofInn_49 : decode cX6_ofInn 49 = .ok (.ireturn, 1) := by decide +kernel
theorem dX6_ofInn_50 : decode cX6_ofInn 50 = .ok (.aload_n 0, 1) := by decide +kernel
theorem dX6_ofInn_51 : decode cX6_ofInn 51 = .ok (.getfield 20, 3) := by decide +kernel
theorem dX6_ofInn_54 : decode cX6_ofInn 54 = .ok (.getfield 104, 3) := by decide +kernel
theorem dX6_ofInn_57 : decode cX6_ofInn 57 = .ok (.iload_n 1, 1) := by decide +kernel
theorem dX6_ofInn_58 : decode cX6_ofInn 58 = .ok (.iaload, 1) := by decide +kernel
theorem dX6_ofInn_59 : decode cX6_ofInn 59 = .ok (.ireturn, 1) := by decide +kernel
theorem dX6_ofInn_60 : decode cX6_ofInn 60 = .ok (.aload_n 0, 1) := by decide +kernel
theorem dX6_ofInn_61 : decode cX6_ofInn 61 = .ok (.getfield 20, 3) := by decide +kernel
theorem dX6_ofInn_64 : decode cX6_ofInn 64 = .ok (.iload_n 1, 1) := by decide +kernel
theorem dX6_ofInn_65 : decode cX6_ofInn 65 = .ok (.aload_n 0, 1) := by decide +kernel
theorem dX6_ofInn_66 : decode cX6_ofInn 66 = .ok (.getfield 20, 3) := by decide +kernel
theorem dX6_ofInn_69 : decode cX6_ofInn 69 = .ok (.getfield 104, 3) := by decide +kernel
theorem dX6_ofInn_72 : decode cX6_ofInn 72 = .ok (.iload_n 1, 1) := by decide +kernel
theorem dX6_ofInn_73 : decode cX6_ofInn 73 = .ok (.iaload, 1) := by decide +kernel
theorem dX6_ofInn_74 : decode cX6_ofInn 74 = .ok (.invokevirtual 107, 3) := by decide +kernel
theorem dX6_ofInn_77 : decode cX6_ofInn 77 = .ok (.ireturn, 1) := by decide +kernel
theorem dX6_ofInn_78 : decode cX6_ofInn 78 = .ok (.bipush (-2), 2) := by decide +kernel
theorem dX6_ofInn_80 : decode cX6_ofInn 80 = .ok (.ireturn, 1) := by decide +kernel
theorem dX6_ofGuest_0 : decode cX6_ofGuest 0 = .ok (.aload_n 0, 1) := by decide +kernel
theorem dX6_ofGuest_1 : decode cX6_ofGuest 1 = .ok (.getfield 20, 3) := by decide +kernel
theorem dX6_ofGuest_4 : decode cX6_ofGuest 4 = .ok (.iload_n 1, 1) := by decide +kernel
theorem dX6_ofGuest_5 : decode cX6_ofGuest 5 = .ok (.invokevirtual 111, 3) := by decide +kernel
theorem dX6_ofGuest_8 : decode cX6_ofGuest 8 = .ok (.ifCond .ne 5, 3) := by decide +kernel
theorem dX6_ofGuest_11 : decode cX6_ofGuest 11 = .ok (.iconst (-1), 1) := by decide +kernel
theorem dX6_ofGuest_12 : decode cX6_ofGuest 12 = .ok (.ireturn, 1) := by decide +kernel
theorem dX6_ofGuest_13 : decode cX6_ofGuest 13 = .ok (.iload_n 2, 1) := by decide +kernel
theorem dX6_ofGuest_14 : decode cX6_ofGuest 14 = .ok (.lookupswitch 46 #[(0, 26), (1, 36)], 26) := by decide +kernel
theorem dX6_ofGuest_40 : decode cX6_ofGuest 40 = .ok (.aload_n 0, 1) := by decide +kernel
theorem dX6_ofGuest_41 : decode cX6_ofGuest 41 = .ok (.getfield 20, 3) := by decide +kernel
theorem dX6_ofGuest_44 : decode cX6_ofGuest 44 = .ok (.getfield 114, 3) := by decide +kernel
theorem dX6_ofGuest_47 : decode cX6_ofGuest 47 = .ok (.iload_n 1, 1) := by decide +kernel
theorem dX6_ofGuest_48 : decode cX6_ofGuest 48 = .ok (.iaload, 1) := by decide +kernel
theorem dX6_ofGuest_49 : decode cX6_ofGuest 49 = .ok (.ireturn, 1) := by decide +kernel
theorem dX6_ofGuest_50 : decode cX6_ofGuest 50 = .ok (.aload_n 0, 1) := by decide +kernel
theorem dX6_ofGuest_51 : decode cX6_ofGuest 51 = .ok (.getfield 20, 3) := by decide +kernel
theorem dX6_ofGuest_54 : decode cX6_ofGuest 54 = .ok (.getfield 117, 3) := by decide +kernel
theorem dX6_ofGuest_57 : decode cX6_ofGuest 57 = .ok (.iload_n 1, 1) := by decide +kernel
theorem dX6_ofGuest_58 : decode cX6_ofGuest 58 = .ok (.iaload, 1) := by decide +kernel
theorem dX6_ofGuest_59 : decode cX6_ofGuest 59 = .ok (.ireturn, 1) := by decide +kernel
theorem dX6_ofGuest_60 : decode cX6_ofGuest 60 = .ok (.bipush (-2), 2) := by decide +kernel
theorem dX6_ofGuest_62 : decode cX6_ofGuest 62 = .ok (.ireturn, 1) := by decide +kernel
theorem dX6_ofNight_0 : decode cX6_ofNight 0 = .ok (.aload_n 0, 1) := by decide +kernel
theorem dX6_ofNight_1 : decode cX6_ofNight 1 = .ok (.getfield 20, 3) := by decide +kernel
theorem dX6_ofNight_4 : decode cX6_ofNight 4 = .ok (.invokevirtual 120, 3) := by decide +kernel
theorem dX6_ofNight_7 : decode cX6_ofNight 7 = .ok (.ifCond .ne 6, 3) := by decide +kernel
theorem dX6_ofNight_10 : decode cX6_ofNight 10 = .ok (.bipush (-3), 2) := by decide +kernel
theorem dX6_ofNight_12 : decode cX6_ofNight 12 = .ok (.ireturn, 1) := by decide +kernel
theorem dX6_ofNight_13 : decode cX6_ofNight 13 = .ok (.aload_n 0, 1) := by decide +kernel
theorem dX6_ofNight_14 : decode cX6_ofNight 14 = .ok (.getfield 20, 3) := by decide +kernel
theorem dX6_ofNight_17 : decode cX6_ofNight 17 = .ok (.iload_n 1, 1) := by decide +kernel
theorem dX6_ofNight_18 : decode cX6_ofNight 18 = .ok (.invokevirtual 124, 3) := by decide +kernel
theorem dX6_ofNight_21 : decode cX6_ofNight 21 = .ok (.ifCond .ne 6, 3) := by decide +kernel
theorem dX6_ofNight_24 : decode cX6_ofNight 24 = .ok (.bipush (-2), 2) := by decide +kernel
theorem dX6_ofNight_26 : decode cX6_ofNight 26 = .ok (.ireturn, 1) := by decide +kernel
theorem dX6_ofNight_27 : decode cX6_ofNight 27 = .ok (.iload_n 2, 1) := by decide +kernel
theorem dX6_ofNight_28 : decode cX6_ofNight 28 = .ok (.lookupswitch 48 #[(0, 28), (1, 38)], 28) := by decide +kernel
theorem dX6_ofNight_56 : decode cX6_ofNight 56 = .ok (.aload_n 0, 1) := by decide +kernel
theorem dX6_ofNight_57 : decode cX6_ofNight 57 = .ok (.getfield 20, 3) := by decide +kernel
theorem dX6_ofNight_60 : decode cX6_ofNight 60 = .ok (.getfield 127, 3) := by decide +kernel
theorem dX6_ofNight_63 : decode cX6_ofNight 63 = .ok (.iload_n 1, 1) := by decide +kernel
theorem dX6_ofNight_64 : decode cX6_ofNight 64 = .ok (.iaload, 1) := by decide +kernel
theorem dX6_ofNight_65 : decode cX6_ofNight 65 = .ok (.ireturn, 1) := by decide +kernel
theorem dX6_ofNight_66 : decode cX6_ofNight 66 = .ok (.aload_n 0, 1) := by decide +kernel
theorem dX6_ofNight_67 : decode cX6_ofNight 67 = .ok (.getfield 20, 3) := by decide +kernel
theorem dX6_ofNight_70 : decode cX6_ofNight 70 = .ok (.getfield 130, 3) := by decide +kernel
theorem dX6_ofNight_73 : decode cX6_ofNight 73 = .ok (.iload_n 1, 1) := by decide +kernel
theorem dX6_ofNight_74 : decode cX6_ofNight 74 = .ok (.iaload, 1) := by decide +kernel
theorem dX6_ofNight_75 : decode cX6_ofNight 75 = .ok (.ireturn, 1) := by decide +kernel
theorem dX6_ofNight_76 : decode cX6_ofNight 76 = .ok (.bipush (-2), 2) := by decide +kernel
theorem dX6_ofNight_78 : decode cX6_ofNight 78 = .ok (.ireturn, 1) := by decide +kernel
theorem dX6_rule_0 : decode cX6_rule 0 = .ok (.iload_n 1, 1) := by decide +kernel
theorem dX6_rule_1 : decode cX6_rule 1 = .ok (.ifCond .lt 8, 3) := by decide +kernel
theorem dX6_rule_4 : decode cX6_rule 4 = .ok (.iload_n 1, 1) := by decide +kernel
theorem dX6_rule_5 : decode cX6_rule 5 = .ok (.iconst 2, 1) := by decide +kernel
theorem dX6_rule_6 : decode cX6_rule 6 = .ok (.if_icmp .lt 6, 3) := by decide +kernel
theorem dX6_rule_9 : decode cX6_rule 9 = .ok (.bipush (-2), 2) := by decide +kernel
theorem dX6_rule_11 : decode cX6_rule 11 = .ok (.ireturn, 1) := by decide +kernel
theorem dX6_rule_12 : decode cX6_rule 12 = .ok (.aload_n 0, 1) := by decide +kernel
theorem dX6_rule_13 : decode cX6_rule 13 = .ok (.getfield 20, 3) := by decide +kernel
theorem dX6_rule_16 : decode cX6_rule 16 = .ok (.invokevirtual 120, 3) := by decide +kernel
theorem dX6_rule_19 : decode cX6_rule 19 = .ok (.ifCond .ne 6, 3) := by decide +kernel
theorem dX6_rule_22 : decode cX6_rule 22 = .ok (.bipush (-3), 2) := by decide +kernel
theorem dX6_rule_24 : decode cX6_rule 24 = .ok (.ireturn, 1) := by decide +kernel
theorem dX6_rule_25 : decode cX6_rule 25 = .ok (.aload_n 0, 1) := by decide +kernel
theorem dX6_rule_26 : decode cX6_rule 26 = .ok (.getfield 20, 3) := by decide +kernel
theorem dX6_rule_29 : decode cX6_rule 29 = .ok (.getfield 133, 3) := by decide +kernel
theorem dX6_rule_32 : decode cX6_rule 32 = .ok (.istore_n 2, 1) := by decide +kernel
theorem dX6_rule_33 : decode cX6_rule 33 = .ok (.aload_n 0, 1) := by decide +kernel
theorem dX6_rule_34 : decode cX6_rule 34 = .ok (.getfield 20, 3) := by decide +kernel
theorem dX6_rule_37 : decode cX6_rule 37 = .ok (.iload_n 1, 1) := by decide +kernel
theorem dX6_rule_38 : decode cX6_rule 38 = .ok (.putfield 133, 3) := by decide +kernel
theorem dX6_rule_41 : decode cX6_rule 41 = .ok (.iload_n 2, 1) := by decide +kernel
theorem dX6_rule_42 : decode cX6_rule 42 = .ok (.ireturn, 1) := by decide +kernel
theorem dX6_fall_0 : decode cX6_fall 0 = .ok (.aload_n 0, 1) := by decide +kernel
theorem dX6_fall_1 : decode cX6_fall 1 = .ok (.getfield 20, 3) := by decide +kernel
theorem dX6_fall_4 : decode cX6_fall 4 = .ok (.invokevirtual 120, 3) := by decide +kernel
theorem dX6_fall_7 : decode cX6_fall 7 = .ok (.ifCond .ne 6, 3) := by decide +kernel
theorem dX6_fall_10 : decode cX6_fall 10 = .ok (.bipush (-3), 2) := by decide +kernel
theorem dX6_fall_12 : decode cX6_fall 12 = .ok (.ireturn, 1) := by decide +kernel
theorem dX6_fall_13 : decode cX6_fall 13 = .ok (.aload_n 0, 1) := by decide +kernel
theorem dX6_fall_14 : decode cX6_fall 14 = .ok (.getfield 20, 3) := by decide +kernel
theorem dX6_fall_17 : decode cX6_fall 17 = .ok (.iload_n 1, 1) := by decide +kernel
theorem dX6_fall_18 : decode cX6_fall 18 = .ok (.invokevirtual 124, 3) := by decide +kernel
theorem dX6_fall_21 : decode cX6_fall 21 = .ok (.ifCond .eq 12, 3) := by decide +kernel
theorem dX6_fall_24 : decode cX6_fall 24 = .ok (.iload_n 2, 1) := by decide +kernel
theorem dX6_fall_25 : decode cX6_fall 25 = .ok (.ifCond .lt 8, 3) := by decide +kernel
theorem dX6_fall_28 : decode cX6_fall 28 = .ok (.iload_n 2, 1) := by decide +kernel
theorem dX6_fall_29 : decode cX6_fall 29 = .ok (.iconst 5, 1) := by decide +kernel
theorem dX6_fall_30 : decode cX6_fall 30 = .ok (.if_icmp .le 6, 3) := by decide +kernel
theorem dX6_fall_33 : decode cX6_fall 33 = .ok (.bipush (-2), 2) := by decide +kernel
theorem dX6_fall_35 : decode cX6_fall 35 = .ok (.ireturn, 1) := by decide +kernel
theorem dX6_fall_36 : decode cX6_fall 36 = .ok (.aload_n 0, 1) := by decide +kernel
theorem dX6_fall_37 : decode cX6_fall 37 = .ok (.getfield 20, 3) := by decide +kernel
theorem dX6_fall_40 : decode cX6_fall 40 = .ok (.getfield 130, 3) := by decide +kernel
theorem dX6_fall_43 : decode cX6_fall 43 = .ok (.iload_n 1, 1) := by decide +kernel
theorem dX6_fall_44 : decode cX6_fall 44 = .ok (.iaload, 1) := by decide +kernel
theorem dX6_fall_45 : decode cX6_fall 45 = .ok (.istore_n 3, 1) := by decide +kernel
theorem dX6_fall_46 : decode cX6_fall 46 = .ok (.aload_n 0, 1) := by decide +kernel
theorem dX6_fall_47 : decode cX6_fall 47 = .ok (.getfield 20, 3) := by decide +kernel
theorem dX6_fall_50 : decode cX6_fall 50 = .ok (.getfield 130, 3) := by decide +kernel
theorem dX6_fall_53 : decode cX6_fall 53 = .ok (.iload_n 1, 1) := by decide +kernel
theorem dX6_fall_54 : decode cX6_fall 54 = .ok (.iload_n 2, 1) := by decide +kernel
theorem dX6_fall_55 : decode cX6_fall 55 = .ok (.iastore, 1) := by decide +kernel
theorem dX6_fall_56 : decode cX6_fall 56 = .ok (.iload_n 3, 1) := by decide +kernel
theorem dX6_fall_57 : decode cX6_fall 57 = .ok (.ireturn, 1) := by decide +kernel
theorem dX6_gust_0 : decode cX6_gust 0 = .ok (.aload_n 0, 1) := by decide +kernel
theorem dX6_gust_1 : decode cX6_gust 1 = .ok (.getfield 20, 3) := by decide +kernel
theorem dX6_gust_4 : decode cX6_gust 4 = .ok (.invokevirtual 120, 3) := by decide +kernel
theorem dX6_gust_7 : decode cX6_gust 7 = .ok (.ifCond .ne 6, 3) := by decide +kernel
theorem dX6_gust_10 : decode cX6_gust 10 = .ok (.bipush (-3), 2) := by decide +kernel
theorem dX6_gust_12 : decode cX6_gust 12 = .ok (.ireturn, 1) := by decide +kernel
theorem dX6_gust_13 : decode cX6_gust 13 = .ok (.aload_n 0, 1) := by decide +kernel
theorem dX6_gust_14 : decode cX6_gust 14 = .ok (.getfield 20, 3) := by decide +kernel
theorem dX6_gust_17 : decode cX6_gust 17 = .ok (.iload_n 1, 1) := by decide +kernel
theorem dX6_gust_18 : decode cX6_gust 18 = .ok (.invokevirtual 124, 3) := by decide +kernel
theorem dX6_gust_21 : decode cX6_gust 21 = .ok (.ifCond .ne 6, 3) := by decide +kernel
theorem dX6_gust_24 : decode cX6_gust 24 = .ok (.bipush (-2), 2) := by decide +kernel
theorem dX6_gust_26 : decode cX6_gust 26 = .ok (.ireturn, 1) := by decide +kernel
theorem dX6_gust_27 : decode cX6_gust 27 = .ok (.iload_n 2, 1) := by decide +kernel
theorem dX6_gust_28 : decode cX6_gust 28 = .ok (.ifCond .eq 7, 3) := by decide +kernel
theorem dX6_gust_31 : decode cX6_gust 31 = .ok (.iconst 1, 1) := by decide +kernel
theorem dX6_gust_32 : decode cX6_gust 32 = .ok (.goto 4, 3) := by decide +kernel
theorem dX6_gust_35 : decode cX6_gust 35 = .ok (.iconst 0, 1) := by decide +kernel
theorem dX6_gust_36 : decode cX6_gust 36 = .ok (.istore_n 3, 1) := by decide +kernel
theorem dX6_gust_37 : decode cX6_gust 37 = .ok (.aload_n 0, 1) := by decide +kernel
theorem dX6_gust_38 : decode cX6_gust 38 = .ok (.getfield 20, 3) := by decide +kernel
theorem dX6_gust_41 : decode cX6_gust 41 = .ok (.getfield 127, 3) := by decide +kernel
theorem dX6_gust_44 : decode cX6_gust 44 = .ok (.iload_n 1, 1) := by decide +kernel
theorem dX6_gust_45 : decode cX6_gust 45 = .ok (.iaload, 1) := by decide +kernel
theorem dX6_gust_46 : decode cX6_gust 46 = .ok (.iload_n 3, 1) := by decide +kernel
theorem dX6_gust_47 : decode cX6_gust 47 = .ok (.if_icmp .ne 7, 3) := by decide +kernel
theorem dX6_gust_50 : decode cX6_gust 50 = .ok (.iconst 0, 1) := by decide +kernel
theorem dX6_gust_51 : decode cX6_gust 51 = .ok (.goto 4, 3) := by decide +kernel
theorem dX6_gust_54 : decode cX6_gust 54 = .ok (.iconst 1, 1) := by decide +kernel
theorem dX6_gust_55 : decode cX6_gust 55 = .ok (.istore 4, 2) := by decide +kernel
theorem dX6_gust_57 : decode cX6_gust 57 = .ok (.aload_n 0, 1) := by decide +kernel
theorem dX6_gust_58 : decode cX6_gust 58 = .ok (.getfield 20, 3) := by decide +kernel
theorem dX6_gust_61 : decode cX6_gust 61 = .ok (.getfield 127, 3) := by decide +kernel
theorem dX6_gust_64 : decode cX6_gust 64 = .ok (.iload_n 1, 1) := by decide +kernel
theorem dX6_gust_65 : decode cX6_gust 65 = .ok (.iload_n 3, 1) := by decide +kernel
theorem dX6_gust_66 : decode cX6_gust 66 = .ok (.iastore, 1) := by decide +kernel
theorem dX6_gust_67 : decode cX6_gust 67 = .ok (.iload 4, 2) := by decide +kernel
theorem dX6_gust_69 : decode cX6_gust 69 = .ok (.ireturn, 1) := by decide +kernel
theorem dX6_lodge_0 : decode cX6_lodge 0 = .ok (.aload_n 0, 1) := by decide +kernel
theorem dX6_lodge_1 : decode cX6_lodge 1 = .ok (.getfield 20, 3) := by decide +kernel
theorem dX6_lodge_4 : decode cX6_lodge 4 = .ok (.iload_n 1, 1) := by decide +kernel
theorem dX6_lodge_5 : decode cX6_lodge 5 = .ok (.invokevirtual 111, 3) := by decide +kernel
theorem dX6_lodge_8 : decode cX6_lodge 8 = .ok (.ifCond .eq 14, 3) := by decide +kernel
theorem dX6_lodge_11 : decode cX6_lodge 11 = .ok (.aload_n 0, 1) := by decide +kernel
theorem dX6_lodge_12 : decode cX6_lodge 12 = .ok (.getfield 20, 3) := by decide +kernel
theorem dX6_lodge_15 : decode cX6_lodge 15 = .ok (.iload_n 2, 1) := by decide +kernel
theorem dX6_lodge_16 : decode cX6_lodge 16 = .ok (.invokevirtual 97, 3) := by decide +kernel
theorem dX6_lodge_19 : decode cX6_lodge 19 = .ok (.ifCond .ne 5, 3) := by decide +kernel
theorem dX6_lodge_22 : decode cX6_lodge 22 = .ok (.iconst (-1), 1) := by decide +kernel
theorem dX6_lodge_23 : decode cX6_lodge 23 = .ok (.ireturn, 1) := by decide +kernel
theorem dX6_lodge_24 : decode cX6_lodge 24 = .ok (.aload_n 0, 1) := by decide +kernel
theorem dX6_lodge_25 : decode cX6_lodge 25 = .ok (.getfield 20, 3) := by decide +kernel
theorem dX6_lodge_28 : decode cX6_lodge 28 = .ok (.getfield 117, 3) := by decide +kernel
theorem dX6_lodge_31 : decode cX6_lodge 31 = .ok (.iload_n 1, 1) := by decide +kernel
theorem dX6_lodge_32 : decode cX6_lodge 32 = .ok (.iaload, 1) := by decide +kernel
theorem dX6_lodge_33 : decode cX6_lodge 33 = .ok (.istore_n 3, 1) := by decide +kernel
theorem dX6_lodge_34 : decode cX6_lodge 34 = .ok (.aload_n 0, 1) := by decide +kernel
theorem dX6_lodge_35 : decode cX6_lodge 35 = .ok (.getfield 20, 3) := by decide +kernel
theorem dX6_lodge_38 : decode cX6_lodge 38 = .ok (.getfield 117, 3) := by decide +kernel
theorem dX6_lodge_41 : decode cX6_lodge 41 = .ok (.iload_n 1, 1) := by decide +kernel
theorem dX6_lodge_42 : decode cX6_lodge 42 = .ok (.iload_n 2, 1) := by decide +kernel
theorem dX6_lodge_43 : decode cX6_lodge 43 = .ok (.iastore, 1) := by decide +kernel
theorem dX6_lodge_44 : decode cX6_lodge 44 = .ok (.iload_n 3, 1) := by decide +kernel
theorem dX6_lodge_45 : decode cX6_lodge 45 = .ok (.ireturn, 1) := by decide +kernel
theorem dX6_sweep_0 : decode cX6_sweep 0 = .ok (.aload_n 0, 1) := by decide +kernel
theorem dX6_sweep_1 : decode cX6_sweep 1 = .ok (.getfield 20, 3) := by decide +kernel
theorem dX6_sweep_4 : decode cX6_sweep 4 = .ok (.iload_n 1, 1) := by decide +kernel
theorem dX6_sweep_5 : decode cX6_sweep 5 = .ok (.invokevirtual 97, 3) := by decide +kernel
theorem dX6_sweep_8 : decode cX6_sweep 8 = .ok (.ifCond .ne 5, 3) := by decide +kernel
theorem dX6_sweep_11 : decode cX6_sweep 11 = .ok (.iconst (-1), 1) := by decide +kernel
theorem dX6_sweep_12 : decode cX6_sweep 12 = .ok (.ireturn, 1) := by decide +kernel
theorem dX6_sweep_13 : decode cX6_sweep 13 = .ok (.iload_n 2, 1) := by decide +kernel
theorem dX6_sweep_14 : decode cX6_sweep 14 = .ok (.ifCond .eq 9, 3) := by decide +kernel
theorem dX6_sweep_17 : decode cX6_sweep 17 = .ok (.iload_n 1, 1) := by decide +kernel
theorem dX6_sweep_18 : decode cX6_sweep 18 = .ok (.iconst 1, 1) := by decide +kernel
theorem dX6_sweep_19 : decode cX6_sweep 19 = .ok (.iadd, 1) := by decide +kernel
theorem dX6_sweep_20 : decode cX6_sweep 20 = .ok (.goto 6, 3) := by decide +kernel
theorem dX6_sweep_23 : decode cX6_sweep 23 = .ok (.iload_n 1, 1) := by decide +kernel
theorem dX6_sweep_24 : decode cX6_sweep 24 = .ok (.iconst 1, 1) := by decide +kernel
theorem dX6_sweep_25 : decode cX6_sweep 25 = .ok (.isub, 1) := by decide +kernel
theorem dX6_sweep_26 : decode cX6_sweep 26 = .ok (.istore 4, 2) := by decide +kernel
theorem dX6_sweep_28 : decode cX6_sweep 28 = .ok (.aload_n 0, 1) := by decide +kernel
theorem dX6_sweep_29 : decode cX6_sweep 29 = .ok (.getfield 20, 3) := by decide +kernel
theorem dX6_sweep_32 : decode cX6_sweep 32 = .ok (.iload 4, 2) := by decide +kernel
theorem dX6_sweep_34 : decode cX6_sweep 34 = .ok (.invokevirtual 97, 3) := by decide +kernel
theorem dX6_sweep_37 : decode cX6_sweep 37 = .ok (.ifCond .ne 5, 3) := by decide +kernel
theorem dX6_sweep_40 : decode cX6_sweep 40 = .ok (.iconst (-1), 1) := by decide +kernel
theorem dX6_sweep_41 : decode cX6_sweep 41 = .ok (.ireturn, 1) := by decide +kernel
theorem dX6_sweep_42 : decode cX6_sweep 42 = .ok (.iload_n 3, 1) := by decide +kernel
theorem dX6_sweep_43 : decode cX6_sweep 43 = .ok (.ifCond .lt 9, 3) := by decide +kernel
theorem dX6_sweep_46 : decode cX6_sweep 46 = .ok (.iload_n 3, 1) := by decide +kernel
theorem dX6_sweep_47 : decode cX6_sweep 47 = .ok (.bipush 9, 2) := by decide +kernel
theorem dX6_sweep_49 : decode cX6_sweep 49 = .ok (.if_icmp .le 6, 3) := by decide +kernel
theorem dX6_sweep_52 : decode cX6_sweep 52 = .ok (.bipush (-2), 2) := by decide +kernel
theorem dX6_sweep_54 : decode cX6_sweep 54 = .ok (.ireturn, 1) := by decide +kernel
theorem dX6_sweep_55 : decode cX6_sweep 55 = .ok (.aload_n 0, 1) := by decide +kernel
theorem dX6_sweep_56 : decode cX6_sweep 56 = .ok (.getfield 20, 3) := by decide +kernel
theorem dX6_sweep_59 : decode cX6_sweep 59 = .ok (.iload_n 1, 1) := by decide +kernel
theorem dX6_sweep_60 : decode cX6_sweep 60 = .ok (.iload 4, 2) := by decide +kernel
theorem dX6_sweep_62 : decode cX6_sweep 62 = .ok (.iload_n 3, 1) := by decide +kernel
theorem dX6_sweep_63 : decode cX6_sweep 63 = .ok (.invokevirtual 136, 3) := by decide +kernel
theorem dX6_sweep_66 : decode cX6_sweep 66 = .ok (.ireturn, 1) := by decide +kernel
theorem dX6_where_0 : decode cX6_where 0 = .ok (.aload_n 0, 1) := by decide +kernel
theorem dX6_where_1 : decode cX6_where 1 = .ok (.getfield 20, 3) := by decide +kernel
theorem dX6_where_4 : decode cX6_where 4 = .ok (.iload_n 1, 1) := by decide +kernel
theorem dX6_where_5 : decode cX6_where 5 = .ok (.invokevirtual 111, 3) := by decide +kernel
theorem dX6_where_8 : decode cX6_where 8 = .ok (.ifCond .ne 5, 3) := by decide +kernel
theorem dX6_where_11 : decode cX6_where 11 = .ok (.iconst (-1), 1) := by decide +kernel
theorem dX6_where_12 : decode cX6_where 12 = .ok (.ireturn, 1) := by decide +kernel
theorem dX6_where_13 : decode cX6_where 13 = .ok (.aload_n 0, 1) := by decide +kernel
theorem dX6_where_14 : decode cX6_where 14 = .ok (.getfield 20, 3) := by decide +kernel
theorem dX6_where_17 : decode cX6_where 17 = .ok (.iload_n 2, 1) := by decide +kernel
theorem dX6_where_18 : decode cX6_where 18 = .ok (.invokevirtual 139, 3) := by decide +kernel
theorem dX6_where_21 : decode cX6_where 21 = .ok (.ifCond .ne 6, 3) := by decide +kernel
theorem dX6_where_24 : decode cX6_where 24 = .ok (.bipush (-2), 2) := by decide +kernel
theorem dX6_where_26 : decode cX6_where 26 = .ok (.ireturn, 1) := by decide +kernel
theorem dX6_where_27 : decode cX6_where 27 = .ok (.aload_n 0, 1) := by decide +kernel
theorem dX6_where_28 : decode cX6_where 28 = .ok (.getfield 32, 3) := by decide +kernel
theorem dX6_where_31 : decode cX6_where 31 = .ok (.iload_n 2, 1) := by decide +kernel
theorem dX6_where_32 : decode cX6_where 32 = .ok (.invokevirtual 142, 3) := by decide +kernel
theorem dX6_where_35 : decode cX6_where 35 = .ok (.aload_n 0, 1) := by decide +kernel
theorem dX6_where_36 : decode cX6_where 36 = .ok (.getfield 32, 3) := by decide +kernel
theorem dX6_where_39 : decode cX6_where 39 = .ok (.iload_n 1, 1) := by decide +kernel
theorem dX6_where_40 : decode cX6_where 40 = .ok (.iload_n 2, 1) := by decide +kernel
theorem dX6_where_41 : decode cX6_where 41 = .ok (.invokevirtual 146, 3) := by decide +kernel
theorem dX6_where_44 : decode cX6_where 44 = .ok (.ireturn, 1) := by decide +kernel
theorem dX6_deep_0 : decode cX6_deep 0 = .ok (.aload_n 0, 1) := by decide +kernel
theorem dX6_deep_1 : decode cX6_deep 1 = .ok (.getfield 20, 3) := by decide +kernel
theorem dX6_deep_4 : decode cX6_deep 4 = .ok (.iload_n 1, 1) := by decide +kernel
theorem dX6_deep_5 : decode cX6_deep 5 = .ok (.invokevirtual 97, 3) := by decide +kernel
theorem dX6_deep_8 : decode cX6_deep 8 = .ok (.ifCond .ne 5, 3) := by decide +kernel
theorem dX6_deep_11 : decode cX6_deep 11 = .ok (.iconst (-1), 1) := by decide +kernel
theorem dX6_deep_12 : decode cX6_deep 12 = .ok (.ireturn, 1) := by decide +kernel
theorem dX6_deep_13 : decode cX6_deep 13 = .ok (.aload_n 0, 1) := by decide +kernel
theorem dX6_deep_14 : decode cX6_deep 14 = .ok (.getfield 20, 3) := by decide +kernel
theorem dX6_deep_17 : decode cX6_deep 17 = .ok (.iload_n 2, 1) := by decide +kernel
theorem dX6_deep_18 : decode cX6_deep 18 = .ok (.invokevirtual 139, 3) := by decide +kernel
theorem dX6_deep_21 : decode cX6_deep 21 = .ok (.ifCond .ne 6, 3) := by decide +kernel
theorem dX6_deep_24 : decode cX6_deep 24 = .ok (.bipush (-2), 2) := by decide +kernel
theorem dX6_deep_26 : decode cX6_deep 26 = .ok (.ireturn, 1) := by decide +kernel
theorem dX6_deep_27 : decode cX6_deep 27 = .ok (.aload_n 0, 1) := by decide +kernel
theorem dX6_deep_28 : decode cX6_deep 28 = .ok (.getfield 32, 3) := by decide +kernel
theorem dX6_deep_31 : decode cX6_deep 31 = .ok (.iload_n 2, 1) := by decide +kernel
theorem dX6_deep_32 : decode cX6_deep 32 = .ok (.invokevirtual 142, 3) := by decide +kernel
theorem dX6_deep_35 : decode cX6_deep 35 = .ok (.aload_n 0, 1) := by decide +kernel
theorem dX6_deep_36 : decode cX6_deep 36 = .ok (.getfield 32, 3) := by decide +kernel
theorem dX6_deep_39 : decode cX6_deep 39 = .ok (.getfield 149, 3) := by decide +kernel
theorem dX6_deep_42 : decode cX6_deep 42 = .ok (.iload_n 2, 1) := by decide +kernel
theorem dX6_deep_43 : decode cX6_deep 43 = .ok (.aaload, 1) := by decide +kernel
theorem dX6_deep_44 : decode cX6_deep 44 = .ok (.iload_n 1, 1) := by decide +kernel
theorem dX6_deep_45 : decode cX6_deep 45 = .ok (.iaload, 1) := by decide +kernel
theorem dX6_deep_46 : decode cX6_deep 46 = .ok (.ireturn, 1) := by decide +kernel
theorem dX6_beds_0 : decode cX6_beds 0 = .ok (.aload_n 0, 1) := by decide +kernel
theorem dX6_beds_1 : decode cX6_beds 1 = .ok (.getfield 20, 3) := by decide +kernel
theorem dX6_beds_4 : decode cX6_beds 4 = .ok (.iload_n 1, 1) := by decide +kernel
theorem dX6_beds_5 : decode cX6_beds 5 = .ok (.invokevirtual 152, 3) := by decide +kernel
theorem dX6_beds_8 : decode cX6_beds 8 = .ok (.ifCond .ne 5, 3) := by decide +kernel
theorem dX6_beds_11 : decode cX6_beds 11 = .ok (.iconst (-1), 1) := by decide +kernel
theorem dX6_beds_12 : decode cX6_beds 12 = .ok (.ireturn, 1) := by decide +kernel
theorem dX6_beds_13 : decode cX6_beds 13 = .ok (.aload_n 0, 1) := by decide +kernel
theorem dX6_beds_14 : decode cX6_beds 14 = .ok (.getfield 20, 3) := by decide +kernel
theorem dX6_beds_17 : decode cX6_beds 17 = .ok (.iload_n 2, 1) := by decide +kernel
theorem dX6_beds_18 : decode cX6_beds 18 = .ok (.invokevirtual 139, 3) := by decide +kernel
theorem dX6_beds_21 : decode cX6_beds 21 = .ok (.ifCond .ne 6, 3) := by decide +kernel
theorem dX6_beds_24 : decode cX6_beds 24 = .ok (.bipush (-2), 2) := by decide +kernel
theorem dX6_beds_26 : decode cX6_beds 26 = .ok (.ireturn, 1) := by decide +kernel
theorem dX6_beds_27 : decode cX6_beds 27 = .ok (.aload_n 0, 1) := by decide +kernel
theorem dX6_beds_28 : decode cX6_beds 28 = .ok (.getfield 32, 3) := by decide +kernel
theorem dX6_beds_31 : decode cX6_beds 31 = .ok (.iload_n 2, 1) := by decide +kernel
theorem dX6_beds_32 : decode cX6_beds 32 = .ok (.invokevirtual 142, 3) := by decide +kernel
theorem dX6_beds_35 : decode cX6_beds 35 = .ok (.aload_n 0, 1) := by decide +kernel
theorem dX6_beds_36 : decode cX6_beds 36 = .ok (.getfield 32, 3) := by decide +kernel
theorem dX6_beds_39 : decode cX6_beds 39 = .ok (.getfield 155, 3) := by decide +kernel
theorem dX6_beds_42 : decode cX6_beds 42 = .ok (.iload_n 2, 1) := by decide +kernel
theorem dX6_beds_43 : decode cX6_beds 43 = .ok (.aaload, 1) := by decide +kernel
theorem dX6_beds_44 : decode cX6_beds 44 = .ok (.iload_n 1, 1) := by decide +kernel
theorem dX6_beds_45 : decode cX6_beds 45 = .ok (.iaload, 1) := by decide +kernel
theorem dX6_beds_46 : decode cX6_beds 46 = .ok (.ireturn, 1) := by decide +kernel
theorem dX6_list_0 : decode cX6_list 0 = .ok (.aload_n 0, 1) := by decide +kernel
theorem dX6_list_1 : decode cX6_list 1 = .ok (.iconst 0, 1) := by decide +kernel
theorem dX6_list_2 : decode cX6_list 2 = .ok (.putfield 52, 3) := by decide +kernel
theorem dX6_list_5 : decode cX6_list 5 = .ok (.iload_n 2, 1) := by decide +kernel
theorem dX6_list_6 : decode cX6_list 6 = .ok (.invokestatic 60, 3) := by decide +kernel
theorem dX6_list_9 : decode cX6_list 9 = .ok (.ifCond .ne 5, 3) := by decide +kernel
theorem dX6_list_12 : decode cX6_list 12 = .ok (.iconst (-1), 1) := by decide +kernel
theorem dX6_list_13 : decode cX6_list 13 = .ok (.ireturn, 1) := by decide +kernel
theorem dX6_list_14 : decode cX6_list 14 = .ok (.iload_n 3, 1) := by decide +kernel
theorem dX6_list_15 : decode cX6_list 15 = .ok (.invokestatic 64, 3) := by decide +kernel
theorem dX6_list_18 : decode cX6_list 18 = .ok (.ifCond .ne 6, 3) := by decide +kernel
theorem dX6_list_21 : decode cX6_list 21 = .ok (.bipush (-2), 2) := by decide +kernel
theorem dX6_list_23 : decode cX6_list 23 = .ok (.ireturn, 1) := by decide +kernel
theorem dX6_list_24 : decode cX6_list 24 = .ok (.aload_n 0, 1) := by decide +kernel
theorem dX6_list_25 : decode cX6_list 25 = .ok (.getfield 20, 3) := by decide +kernel
theorem dX6_list_28 : decode cX6_list 28 = .ok (.invokevirtual 120, 3) := by decide +kernel
theorem dX6_list_31 : decode cX6_list 31 = .ok (.ifCond .ne 6, 3) := by decide +kernel
theorem dX6_list_34 : decode cX6_list 34 = .ok (.bipush (-3), 2) := by decide +kernel
theorem dX6_list_36 : decode cX6_list 36 = .ok (.ireturn, 1) := by decide +kernel
theorem dX6_list_37 : decode cX6_list 37 = .ok (.aload_n 0, 1) := by decide +kernel
theorem dX6_list_38 : decode cX6_list 38 = .ok (.getfield 20, 3) := by decide +kernel
theorem dX6_list_41 : decode cX6_list 41 = .ok (.iload_n 1, 1) := by decide +kernel
theorem dX6_list_42 : decode cX6_list 42 = .ok (.invokevirtual 139, 3) := by decide +kernel
theorem dX6_list_45 : decode cX6_list 45 = .ok (.ifCond .ne 6, 3) := by decide +kernel
theorem dX6_list_48 : decode cX6_list 48 = .ok (.bipush (-2), 2) := by decide +kernel
theorem dX6_list_50 : decode cX6_list 50 = .ok (.ireturn, 1) := by decide +kernel
theorem dX6_list_51 : decode cX6_list 51 = .ok (.aload_n 0, 1) := by decide +kernel
theorem dX6_list_52 : decode cX6_list 52 = .ok (.getfield 13, 3) := by decide +kernel
theorem dX6_list_55 : decode cX6_list 55 = .ok (.iload_n 2, 1) := by decide +kernel
theorem dX6_list_56 : decode cX6_list 56 = .ok (.aaload, 1) := by decide +kernel
theorem dX6_list_57 : decode cX6_list 57 = .ok (.iload_n 3, 1) := by decide +kernel
theorem dX6_list_58 : decode cX6_list 58 = .ok (.iload 4, 2) := by decide +kernel
theorem dX6_list_60 : decode cX6_list 60 = .ok (.iload 5, 2) := by decide +kernel
theorem dX6_list_62 : decode cX6_list 62 = .ok (.invokevirtual 67, 3) := by decide +kernel
theorem dX6_list_65 : decode cX6_list 65 = .ok (.istore 6, 2) := by decide +kernel
theorem dX6_list_67 : decode cX6_list 67 = .ok (.iload 6, 2) := by decide +kernel
theorem dX6_list_69 : decode cX6_list 69 = .ok (.ifCond .eq 10, 3) := by decide +kernel
theorem dX6_list_72 : decode cX6_list 72 = .ok (.aload_n 0, 1) := by decide +kernel
theorem dX6_list_73 : decode cX6_list 73 = .ok (.iload 6, 2) := by decide +kernel
theorem dX6_list_75 : decode cX6_list 75 = .ok (.invokevirtual 71, 3) := by decide +kernel
end
section
theorem dX6_list_78 : decode cX6_list 78 = .ok (.ireturn, 1) := by decide +kernel
theorem dX6_list_79 : decode cX6_list 79 = .ok (.iload 5, 2) := by decide +kernel
theorem dX6_list_81 : decode cX6_list 81 = .ok (.aload_n 0, 1) := by decide +kernel
theorem dX6_list_82 : decode cX6_list 82 = .ok (.getfield 20, 3) := by decide +kernel
theorem dX6_list_85 : decode cX6_list 85 = .ok (.getfield 94, 3) := by decide +kernel
theorem dX6_list_88 : decode cX6_list 88 = .ok (.if_icmp .le 6, 3) := by decide +kernel
theorem dX6_list_91 : decode cX6_list 91 = .ok (.bipush (-2), 2) := by decide +kernel
theorem dX6_list_93 : decode cX6_list 93 = .ok (.ireturn, 1) := by decide +kernel
theorem dX6_list_94 : decode cX6_list 94 = .ok (.aload_n 0, 1) := by decide +kernel
theorem dX6_list_95 : decode cX6_list 95 = .ok (.iload_n 1, 1) := by decide +kernel
theorem dX6_list_96 : decode cX6_list 96 = .ok (.aload_n 0, 1) := by decide +kernel
theorem dX6_list_97 : decode cX6_list 97 = .ok (.getfield 13, 3) := by decide +kernel
theorem dX6_list_100 : decode cX6_list 100 = .ok (.iload_n 2, 1) := by decide +kernel
theorem dX6_list_101 : decode cX6_list 101 = .ok (.aaload, 1) := by decide +kernel
theorem dX6_list_102 : decode cX6_list 102 = .ok (.iload 4, 2) := by decide +kernel
theorem dX6_list_104 : decode cX6_list 104 = .ok (.iload 5, 2) := by decide +kernel
theorem dX6_list_106 : decode cX6_list 106 = .ok (.invokevirtual 157, 3) := by decide +kernel
theorem dX6_list_109 : decode cX6_list 109 = .ok (.ireturn, 1) := by decide +kernel
theorem dX6_meet_0 : decode cX6_meet 0 = .ok (.aload_n 0, 1) := by decide +kernel
theorem dX6_meet_1 : decode cX6_meet 1 = .ok (.getfield 20, 3) := by decide +kernel
theorem dX6_meet_4 : decode cX6_meet 4 = .ok (.iload_n 1, 1) := by decide +kernel
theorem dX6_meet_5 : decode cX6_meet 5 = .ok (.invokevirtual 161, 3) := by decide +kernel
theorem dX6_meet_8 : decode cX6_meet 8 = .ok (.istore_n 2, 1) := by decide +kernel
theorem dX6_meet_9 : decode cX6_meet 9 = .ok (.iload_n 2, 1) := by decide +kernel
theorem dX6_meet_10 : decode cX6_meet 10 = .ok (.ifCond .ne 5, 3) := by decide +kernel
theorem dX6_meet_13 : decode cX6_meet 13 = .ok (.iconst (-1), 1) := by decide +kernel
theorem dX6_meet_14 : decode cX6_meet 14 = .ok (.ireturn, 1) := by decide +kernel
theorem dX6_meet_15 : decode cX6_meet 15 = .ok (.aload_n 0, 1) := by decide +kernel
theorem dX6_meet_16 : decode cX6_meet 16 = .ok (.getfield 32, 3) := by decide +kernel
theorem dX6_meet_19 : decode cX6_meet 19 = .ok (.iload_n 2, 1) := by decide +kernel
theorem dX6_meet_20 : decode cX6_meet 20 = .ok (.aload_n 0, 1) := by decide +kernel
theorem dX6_meet_21 : decode cX6_meet 21 = .ok (.getfield 20, 3) := by decide +kernel
theorem dX6_meet_24 : decode cX6_meet 24 = .ok (.getfield 164, 3) := by decide +kernel
theorem dX6_meet_27 : decode cX6_meet 27 = .ok (.invokevirtual 166, 3) := by decide +kernel
theorem dX6_meet_30 : decode cX6_meet 30 = .ok (.ireturn, 1) := by decide +kernel
theorem dX6_least_0 : decode cX6_least 0 = .ok (.aload_n 0, 1) := by decide +kernel
theorem dX6_least_1 : decode cX6_least 1 = .ok (.getfield 20, 3) := by decide +kernel
theorem dX6_least_4 : decode cX6_least 4 = .ok (.iload_n 1, 1) := by decide +kernel
theorem dX6_least_5 : decode cX6_least 5 = .ok (.invokevirtual 139, 3) := by decide +kernel
theorem dX6_least_8 : decode cX6_least 8 = .ok (.ifCond .eq 12, 3) := by decide +kernel
theorem dX6_least_11 : decode cX6_least 11 = .ok (.iload_n 2, 1) := by decide +kernel
theorem dX6_least_12 : decode cX6_least 12 = .ok (.ifCond .lt 8, 3) := by decide +kernel
theorem dX6_least_15 : decode cX6_least 15 = .ok (.iload_n 2, 1) := by decide +kernel
theorem dX6_least_16 : decode cX6_least 16 = .ok (.iconst 2, 1) := by decide +kernel
theorem dX6_least_17 : decode cX6_least 17 = .ok (.if_icmp .le 6, 3) := by decide +kernel
theorem dX6_least_20 : decode cX6_least 20 = .ok (.bipush (-2), 2) := by decide +kernel
theorem dX6_least_22 : decode cX6_least 22 = .ok (.ireturn, 1) := by decide +kernel
theorem dX6_least_23 : decode cX6_least 23 = .ok (.aload_n 0, 1) := by decide +kernel
theorem dX6_least_24 : decode cX6_least 24 = .ok (.getfield 20, 3) := by decide +kernel
theorem dX6_least_27 : decode cX6_least 27 = .ok (.invokevirtual 120, 3) := by decide +kernel
theorem dX6_least_30 : decode cX6_least 30 = .ok (.ifCond .ne 6, 3) := by decide +kernel
theorem dX6_least_33 : decode cX6_least 33 = .ok (.bipush (-3), 2) := by decide +kernel
theorem dX6_least_35 : decode cX6_least 35 = .ok (.ireturn, 1) := by decide +kernel
theorem dX6_least_36 : decode cX6_least 36 = .ok (.aload_n 0, 1) := by decide +kernel
theorem dX6_least_37 : decode cX6_least 37 = .ok (.getfield 48, 3) := by decide +kernel
theorem dX6_least_40 : decode cX6_least 40 = .ok (.iload_n 1, 1) := by decide +kernel
theorem dX6_least_41 : decode cX6_least 41 = .ok (.iload_n 2, 1) := by decide +kernel
theorem dX6_least_42 : decode cX6_least 42 = .ok (.invokevirtual 169, 3) := by decide +kernel
theorem dX6_least_45 : decode cX6_least 45 = .ok (.ireturn, 1) := by decide +kernel
theorem dX6_turn_0 : decode cX6_turn 0 = .ok (.aload_n 0, 1) := by decide +kernel
theorem dX6_turn_1 : decode cX6_turn 1 = .ok (.getfield 20, 3) := by decide +kernel
theorem dX6_turn_4 : decode cX6_turn 4 = .ok (.iload_n 1, 1) := by decide +kernel
theorem dX6_turn_5 : decode cX6_turn 5 = .ok (.invokevirtual 161, 3) := by decide +kernel
theorem dX6_turn_8 : decode cX6_turn 8 = .ok (.istore_n 3, 1) := by decide +kernel
theorem dX6_turn_9 : decode cX6_turn 9 = .ok (.iload_n 3, 1) := by decide +kernel
theorem dX6_turn_10 : decode cX6_turn 10 = .ok (.ifCond .ne 5, 3) := by decide +kernel
theorem dX6_turn_13 : decode cX6_turn 13 = .ok (.iconst (-1), 1) := by decide +kernel
theorem dX6_turn_14 : decode cX6_turn 14 = .ok (.ireturn, 1) := by decide +kernel
theorem dX6_turn_15 : decode cX6_turn 15 = .ok (.aload_n 0, 1) := by decide +kernel
theorem dX6_turn_16 : decode cX6_turn 16 = .ok (.getfield 20, 3) := by decide +kernel
theorem dX6_turn_19 : decode cX6_turn 19 = .ok (.iload_n 2, 1) := by decide +kernel
theorem dX6_turn_20 : decode cX6_turn 20 = .ok (.invokevirtual 139, 3) := by decide +kernel
theorem dX6_turn_23 : decode cX6_turn 23 = .ok (.ifCond .ne 6, 3) := by decide +kernel
theorem dX6_turn_26 : decode cX6_turn 26 = .ok (.bipush (-2), 2) := by decide +kernel
theorem dX6_turn_28 : decode cX6_turn 28 = .ok (.ireturn, 1) := by decide +kernel
theorem dX6_turn_29 : decode cX6_turn 29 = .ok (.aload_n 0, 1) := by decide +kernel
theorem dX6_turn_30 : decode cX6_turn 30 = .ok (.getfield 48, 3) := by decide +kernel
theorem dX6_turn_33 : decode cX6_turn 33 = .ok (.iload_n 3, 1) := by decide +kernel
theorem dX6_turn_34 : decode cX6_turn 34 = .ok (.iload_n 2, 1) := by decide +kernel
theorem dX6_turn_35 : decode cX6_turn 35 = .ok (.invokevirtual 172, 3) := by decide +kernel
theorem dX6_turn_38 : decode cX6_turn 38 = .ok (.ireturn, 1) := by decide +kernel
theorem dX6_corks_0 : decode cX6_corks 0 = .ok (.aload_n 0, 1) := by decide +kernel
theorem dX6_corks_1 : decode cX6_corks 1 = .ok (.getfield 20, 3) := by decide +kernel
theorem dX6_corks_4 : decode cX6_corks 4 = .ok (.invokevirtual 120, 3) := by decide +kernel
theorem dX6_corks_7 : decode cX6_corks 7 = .ok (.ifCond .ne 6, 3) := by decide +kernel
theorem dX6_corks_10 : decode cX6_corks 10 = .ok (.bipush (-3), 2) := by decide +kernel
theorem dX6_corks_12 : decode cX6_corks 12 = .ok (.ireturn, 1) := by decide +kernel
theorem dX6_corks_13 : decode cX6_corks 13 = .ok (.aload_n 0, 1) := by decide +kernel
theorem dX6_corks_14 : decode cX6_corks 14 = .ok (.getfield 20, 3) := by decide +kernel
theorem dX6_corks_17 : decode cX6_corks 17 = .ok (.iload_n 1, 1) := by decide +kernel
theorem dX6_corks_18 : decode cX6_corks 18 = .ok (.invokevirtual 124, 3) := by decide +kernel
theorem dX6_corks_21 : decode cX6_corks 21 = .ok (.ifCond .ne 6, 3) := by decide +kernel
theorem dX6_corks_24 : decode cX6_corks 24 = .ok (.bipush (-2), 2) := by decide +kernel
theorem dX6_corks_26 : decode cX6_corks 26 = .ok (.ireturn, 1) := by decide +kernel
theorem dX6_corks_27 : decode cX6_corks 27 = .ok (.aload_n 0, 1) := by decide +kernel
theorem dX6_corks_28 : decode cX6_corks 28 = .ok (.getfield 48, 3) := by decide +kernel
theorem dX6_corks_31 : decode cX6_corks 31 = .ok (.iload_n 1, 1) := by decide +kernel
theorem dX6_corks_32 : decode cX6_corks 32 = .ok (.invokevirtual 175, 3) := by decide +kernel
theorem dX6_corks_35 : decode cX6_corks 35 = .ok (.ireturn, 1) := by decide +kernel
theorem dX6_reading_0 : decode cX6_reading 0 = .ok (.aload_n 0, 1) := by decide +kernel
theorem dX6_reading_1 : decode cX6_reading 1 = .ok (.getfield 20, 3) := by decide +kernel
theorem dX6_reading_4 : decode cX6_reading 4 = .ok (.iload_n 1, 1) := by decide +kernel
theorem dX6_reading_5 : decode cX6_reading 5 = .ok (.invokevirtual 111, 3) := by decide +kernel
theorem dX6_reading_8 : decode cX6_reading 8 = .ok (.ifCond .eq 14, 3) := by decide +kernel
theorem dX6_reading_11 : decode cX6_reading 11 = .ok (.aload_n 0, 1) := by decide +kernel
theorem dX6_reading_12 : decode cX6_reading 12 = .ok (.getfield 20, 3) := by decide +kernel
theorem dX6_reading_15 : decode cX6_reading 15 = .ok (.iload_n 2, 1) := by decide +kernel
theorem dX6_reading_16 : decode cX6_reading 16 = .ok (.invokevirtual 152, 3) := by decide +kernel
theorem dX6_reading_19 : decode cX6_reading 19 = .ok (.ifCond .ne 5, 3) := by decide +kernel
theorem dX6_reading_22 : decode cX6_reading 22 = .ok (.iconst (-1), 1) := by decide +kernel
theorem dX6_reading_23 : decode cX6_reading 23 = .ok (.ireturn, 1) := by decide +kernel
theorem dX6_reading_24 : decode cX6_reading 24 = .ok (.aload_n 0, 1) := by decide +kernel
theorem dX6_reading_25 : decode cX6_reading 25 = .ok (.getfield 20, 3) := by decide +kernel
theorem dX6_reading_28 : decode cX6_reading 28 = .ok (.iload_n 3, 1) := by decide +kernel
theorem dX6_reading_29 : decode cX6_reading 29 = .ok (.invokevirtual 124, 3) := by decide +kernel
theorem dX6_reading_32 : decode cX6_reading 32 = .ok (.ifCond .ne 6, 3) := by decide +kernel
theorem dX6_reading_35 : decode cX6_reading 35 = .ok (.bipush (-2), 2) := by decide +kernel
theorem dX6_reading_37 : decode cX6_reading 37 = .ok (.ireturn, 1) := by decide +kernel
theorem dX6_reading_38 : decode cX6_reading 38 = .ok (.aload_n 0, 1) := by decide +kernel
theorem dX6_reading_39 : decode cX6_reading 39 = .ok (.getfield 39, 3) := by decide +kernel
theorem dX6_reading_42 : decode cX6_reading 42 = .ok (.getfield 178, 3) := by decide +kernel
theorem dX6_reading_45 : decode cX6_reading 45 = .ok (.bipush 8, 2) := by decide +kernel
theorem dX6_reading_47 : decode cX6_reading 47 = .ok (.if_icmp .lt 6, 3) := by decide +kernel
theorem dX6_reading_50 : decode cX6_reading 50 = .ok (.bipush (-4), 2) := by decide +kernel
theorem dX6_reading_52 : decode cX6_reading 52 = .ok (.ireturn, 1) := by decide +kernel
theorem dX6_reading_53 : decode cX6_reading 53 = .ok (.aload_n 0, 1) := by decide +kernel
theorem dX6_reading_54 : decode cX6_reading 54 = .ok (.getfield 39, 3) := by decide +kernel
theorem dX6_reading_57 : decode cX6_reading 57 = .ok (.iload_n 1, 1) := by decide +kernel
theorem dX6_reading_58 : decode cX6_reading 58 = .ok (.iload_n 2, 1) := by decide +kernel
theorem dX6_reading_59 : decode cX6_reading 59 = .ok (.iload_n 3, 1) := by decide +kernel
theorem dX6_reading_60 : decode cX6_reading 60 = .ok (.invokevirtual 181, 3) := by decide +kernel
theorem dX6_reading_63 : decode cX6_reading 63 = .ok (.ireturn, 1) := by decide +kernel
theorem dX6_back_0 : decode cX6_back 0 = .ok (.iload_n 1, 1) := by decide +kernel
theorem dX6_back_1 : decode cX6_back 1 = .ok (.ifCond .lt 14, 3) := by decide +kernel
theorem dX6_back_4 : decode cX6_back 4 = .ok (.iload_n 1, 1) := by decide +kernel
theorem dX6_back_5 : decode cX6_back 5 = .ok (.aload_n 0, 1) := by decide +kernel
theorem dX6_back_6 : decode cX6_back 6 = .ok (.getfield 39, 3) := by decide +kernel
theorem dX6_back_9 : decode cX6_back 9 = .ok (.getfield 178, 3) := by decide +kernel
theorem dX6_back_12 : decode cX6_back 12 = .ok (.if_icmp .le 6, 3) := by decide +kernel
theorem dX6_back_15 : decode cX6_back 15 = .ok (.bipush (-2), 2) := by decide +kernel
theorem dX6_back_17 : decode cX6_back 17 = .ok (.ireturn, 1) := by decide +kernel
theorem dX6_back_18 : decode cX6_back 18 = .ok (.aload_n 0, 1) := by decide +kernel
theorem dX6_back_19 : decode cX6_back 19 = .ok (.getfield 39, 3) := by decide +kernel
theorem dX6_back_22 : decode cX6_back 22 = .ok (.dup, 1) := by decide +kernel
theorem dX6_back_23 : decode cX6_back 23 = .ok (.getfield 178, 3) := by decide +kernel
theorem dX6_back_26 : decode cX6_back 26 = .ok (.iload_n 1, 1) := by decide +kernel
theorem dX6_back_27 : decode cX6_back 27 = .ok (.isub, 1) := by decide +kernel
theorem dX6_back_28 : decode cX6_back 28 = .ok (.putfield 178, 3) := by decide +kernel
theorem dX6_back_31 : decode cX6_back 31 = .ok (.aload_n 0, 1) := by decide +kernel
theorem dX6_back_32 : decode cX6_back 32 = .ok (.getfield 39, 3) := by decide +kernel
theorem dX6_back_35 : decode cX6_back 35 = .ok (.getfield 178, 3) := by decide +kernel
theorem dX6_back_38 : decode cX6_back 38 = .ok (.ireturn, 1) := by decide +kernel
theorem dX6_rules_0 : decode cX6_rules 0 = .ok (.aload_n 0, 1) := by decide +kernel
theorem dX6_rules_1 : decode cX6_rules 1 = .ok (.getfield 20, 3) := by decide +kernel
theorem dX6_rules_4 : decode cX6_rules 4 = .ok (.invokevirtual 120, 3) := by decide +kernel
theorem dX6_rules_7 : decode cX6_rules 7 = .ok (.ifCond .ne 6, 3) := by decide +kernel
theorem dX6_rules_10 : decode cX6_rules 10 = .ok (.bipush (-3), 2) := by decide +kernel
theorem dX6_rules_12 : decode cX6_rules 12 = .ok (.ireturn, 1) := by decide +kernel
theorem dX6_rules_13 : decode cX6_rules 13 = .ok (.aload_n 0, 1) := by decide +kernel
theorem dX6_rules_14 : decode cX6_rules 14 = .ok (.getfield 48, 3) := by decide +kernel
theorem dX6_rules_17 : decode cX6_rules 17 = .ok (.invokevirtual 184, 3) := by decide +kernel
theorem dX6_rules_20 : decode cX6_rules 20 = .ok (.ireturn, 1) := by decide +kernel
theorem dX6_kinds_0 : decode cX6_kinds 0 = .ok (.aload_n 0, 1) := by decide +kernel
theorem dX6_kinds_1 : decode cX6_kinds 1 = .ok (.getfield 20, 3) := by decide +kernel
theorem dX6_kinds_4 : decode cX6_kinds 4 = .ok (.iload_n 1, 1) := by decide +kernel
theorem dX6_kinds_5 : decode cX6_kinds 5 = .ok (.invokevirtual 97, 3) := by decide +kernel
theorem dX6_kinds_8 : decode cX6_kinds 8 = .ok (.ifCond .ne 5, 3) := by decide +kernel
theorem dX6_kinds_11 : decode cX6_kinds 11 = .ok (.iconst (-1), 1) := by decide +kernel
theorem dX6_kinds_12 : decode cX6_kinds 12 = .ok (.ireturn, 1) := by decide +kernel
theorem dX6_kinds_13 : decode cX6_kinds 13 = .ok (.aload_n 0, 1) := by decide +kernel
theorem dX6_kinds_14 : decode cX6_kinds 14 = .ok (.getfield 48, 3) := by decide +kernel
theorem dX6_kinds_17 : decode cX6_kinds 17 = .ok (.iload_n 1, 1) := by decide +kernel
theorem dX6_kinds_18 : decode cX6_kinds 18 = .ok (.invokevirtual 187, 3) := by decide +kernel
theorem dX6_kinds_21 : decode cX6_kinds 21 = .ok (.ireturn, 1) := by decide +kernel
theorem dX6_depths_0 : decode cX6_depths 0 = .ok (.aload_n 0, 1) := by decide +kernel
theorem dX6_depths_1 : decode cX6_depths 1 = .ok (.getfield 20, 3) := by decide +kernel
theorem dX6_depths_4 : decode cX6_depths 4 = .ok (.iload_n 1, 1) := by decide +kernel
theorem dX6_depths_5 : decode cX6_depths 5 = .ok (.invokevirtual 97, 3) := by decide +kernel
theorem dX6_depths_8 : decode cX6_depths 8 = .ok (.ifCond .ne 5, 3) := by decide +kernel
theorem dX6_depths_11 : decode cX6_depths 11 = .ok (.iconst (-1), 1) := by decide +kernel
theorem dX6_depths_12 : decode cX6_depths 12 = .ok (.ireturn, 1) := by decide +kernel
theorem dX6_depths_13 : decode cX6_depths 13 = .ok (.aload_n 0, 1) := by decide +kernel
theorem dX6_depths_14 : decode cX6_depths 14 = .ok (.getfield 48, 3) := by decide +kernel
theorem dX6_depths_17 : decode cX6_depths 17 = .ok (.iload_n 1, 1) := by decide +kernel
theorem dX6_depths_18 : decode cX6_depths 18 = .ok (.invokevirtual 190, 3) := by decide +kernel
theorem dX6_depths_21 : decode cX6_depths 21 = .ok (.ireturn, 1) := by decide +kernel
theorem dX6_falls_0 : decode cX6_falls 0 = .ok (.aload_n 0, 1) := by decide +kernel
theorem dX6_falls_1 : decode cX6_falls 1 = .ok (.getfield 20, 3) := by decide +kernel
theorem dX6_falls_4 : decode cX6_falls 4 = .ok (.invokevirtual 120, 3) := by decide +kernel
theorem dX6_falls_7 : decode cX6_falls 7 = .ok (.ifCond .ne 6, 3) := by decide +kernel
theorem dX6_falls_10 : decode cX6_falls 10 = .ok (.bipush (-3), 2) := by decide +kernel
theorem dX6_falls_12 : decode cX6_falls 12 = .ok (.ireturn, 1) := by decide +kernel
theorem dX6_falls_13 : decode cX6_falls 13 = .ok (.aload_n 0, 1) := by decide +kernel
theorem dX6_falls_14 : decode cX6_falls 14 = .ok (.getfield 20, 3) := by decide +kernel
theorem dX6_falls_17 : decode cX6_falls 17 = .ok (.iload_n 1, 1) := by decide +kernel
theorem dX6_falls_18 : decode cX6_falls 18 = .ok (.invokevirtual 124, 3) := by decide +kernel
theorem dX6_falls_21 : decode cX6_falls 21 = .ok (.ifCond .ne 6, 3) := by decide +kernel
theorem dX6_falls_24 : decode cX6_falls 24 = .ok (.bipush (-2), 2) := by decide +kernel
theorem dX6_falls_26 : decode cX6_falls 26 = .ok (.ireturn, 1) := by decide +kernel
theorem dX6_falls_27 : decode cX6_falls 27 = .ok (.aload_n 0, 1) := by decide +kernel
theorem dX6_falls_28 : decode cX6_falls 28 = .ok (.getfield 48, 3) := by decide +kernel
theorem dX6_falls_31 : decode cX6_falls 31 = .ok (.iload_n 1, 1) := by decide +kernel
theorem dX6_falls_32 : decode cX6_falls 32 = .ok (.invokevirtual 193, 3) := by decide +kernel
theorem dX6_falls_35 : decode cX6_falls 35 = .ok (.ireturn, 1) := by decide +kernel
theorem dX6_odds_0 : decode cX6_odds 0 = .ok (.aload_n 0, 1) := by decide +kernel
theorem dX6_odds_1 : decode cX6_odds 1 = .ok (.getfield 20, 3) := by decide +kernel
theorem dX6_odds_4 : decode cX6_odds 4 = .ok (.iload_n 1, 1) := by decide +kernel
theorem dX6_odds_5 : decode cX6_odds 5 = .ok (.invokevirtual 161, 3) := by decide +kernel
theorem dX6_odds_8 : decode cX6_odds 8 = .ok (.istore 4, 2) := by decide +kernel
theorem dX6_odds_10 : decode cX6_odds 10 = .ok (.iload 4, 2) := by decide +kernel
theorem dX6_odds_12 : decode cX6_odds 12 = .ok (.ifCond .eq 23, 3) := by decide +kernel
theorem dX6_odds_15 : decode cX6_odds 15 = .ok (.aload_n 0, 1) := by decide +kernel
theorem dX6_odds_16 : decode cX6_odds 16 = .ok (.getfield 20, 3) := by decide +kernel
theorem dX6_odds_19 : decode cX6_odds 19 = .ok (.iload_n 2, 1) := by decide +kernel
theorem dX6_odds_20 : decode cX6_odds 20 = .ok (.invokevirtual 139, 3) := by decide +kernel
theorem dX6_odds_23 : decode cX6_odds 23 = .ok (.ifCond .eq 12, 3) := by decide +kernel
theorem dX6_odds_26 : decode cX6_odds 26 = .ok (.iload_n 3, 1) := by decide +kernel
theorem dX6_odds_27 : decode cX6_odds 27 = .ok (.ifCond .lt 8, 3) := by decide +kernel
theorem dX6_odds_30 : decode cX6_odds 30 = .ok (.iload_n 3, 1) := by decide +kernel
theorem dX6_odds_31 : decode cX6_odds 31 = .ok (.iconst 1, 1) := by decide +kernel
theorem dX6_odds_32 : decode cX6_odds 32 = .ok (.if_icmp .le 7, 3) := by decide +kernel
theorem dX6_odds_35 : decode cX6_odds 35 = .ok (.ldc2_w 196, 3) := by decide +kernel
theorem dX6_odds_38 : decode cX6_odds 38 = .ok (.lreturn, 1) := by decide +kernel
theorem dX6_odds_39 : decode cX6_odds 39 = .ok (.aload_n 0, 1) := by decide +kernel
theorem dX6_odds_40 : decode cX6_odds 40 = .ok (.getfield 48, 3) := by decide +kernel
theorem dX6_odds_43 : decode cX6_odds 43 = .ok (.iload 4, 2) := by decide +kernel
theorem dX6_odds_45 : decode cX6_odds 45 = .ok (.iload_n 2, 1) := by decide +kernel
theorem dX6_odds_46 : decode cX6_odds 46 = .ok (.invokevirtual 198, 3) := by decide +kernel
theorem dX6_odds_49 : decode cX6_odds 49 = .ok (.istore 5, 2) := by decide +kernel
theorem dX6_odds_51 : decode cX6_odds 51 = .ok (.iconst 1, 1) := by decide +kernel
theorem dX6_odds_52 : decode cX6_odds 52 = .ok (.iload_n 2, 1) := by decide +kernel
theorem dX6_odds_53 : decode cX6_odds 53 = .ok (.ishl, 1) := by decide +kernel
theorem dX6_odds_54 : decode cX6_odds 54 = .ok (.istore 6, 2) := by decide +kernel
theorem dX6_odds_56 : decode cX6_odds 56 = .ok (.iconst 0, 1) := by decide +kernel
theorem dX6_odds_57 : decode cX6_odds 57 = .ok (.istore 7, 2) := by decide +kernel
theorem dX6_odds_59 : decode cX6_odds 59 = .ok (.iload 7, 2) := by decide +kernel
theorem dX6_odds_61 : decode cX6_odds 61 = .ok (.iload_n 2, 1) := by decide +kernel
theorem dX6_odds_62 : decode cX6_odds 62 = .ok (.if_icmp .ge 28, 3) := by decide +kernel
theorem dX6_odds_65 : decode cX6_odds 65 = .ok (.iload 5, 2) := by decide +kernel
theorem dX6_odds_67 : decode cX6_odds 67 = .ok (.iconst 2, 1) := by decide +kernel
theorem dX6_odds_68 : decode cX6_odds 68 = .ok (.irem, 1) := by decide +kernel
theorem dX6_odds_69 : decode cX6_odds 69 = .ok (.ifCond .ne 21, 3) := by decide +kernel
theorem dX6_odds_72 : decode cX6_odds 72 = .ok (.iload 5, 2) := by decide +kernel
theorem dX6_odds_74 : decode cX6_odds 74 = .ok (.iconst 2, 1) := by decide +kernel
theorem dX6_odds_75 : decode cX6_odds 75 = .ok (.idiv, 1) := by decide +kernel
theorem dX6_odds_76 : decode cX6_odds 76 = .ok (.istore 5, 2) := by decide +kernel
theorem dX6_odds_78 : decode cX6_odds 78 = .ok (.iload 6, 2) := by decide +kernel
theorem dX6_odds_80 : decode cX6_odds 80 = .ok (.iconst 2, 1) := by decide +kernel
theorem dX6_odds_81 : decode cX6_odds 81 = .ok (.idiv, 1) := by decide +kernel
theorem dX6_odds_82 : decode cX6_odds 82 = .ok (.istore 6, 2) := by decide +kernel
theorem dX6_odds_84 : decode cX6_odds 84 = .ok (.iinc 7 1, 3) := by decide +kernel
theorem dX6_odds_87 : decode cX6_odds 87 = .ok (.goto (-28), 3) := by decide +kernel
theorem dX6_odds_90 : decode cX6_odds 90 = .ok (.iload_n 3, 1) := by decide +kernel
theorem dX6_odds_91 : decode cX6_odds 91 = .ok (.ifCond .ne 9, 3) := by decide +kernel
theorem dX6_odds_94 : decode cX6_odds 94 = .ok (.iload 5, 2) := by decide +kernel
theorem dX6_odds_96 : decode cX6_odds 96 = .ok (.i2l, 1) := by decide +kernel
theorem dX6_odds_97 : decode cX6_odds 97 = .ok (.goto 6, 3) := by decide +kernel
theorem dX6_odds_100 : decode cX6_odds 100 = .ok (.iload 6, 2) := by decide +kernel
theorem dX6_odds_102 : decode cX6_odds 102 = .ok (.i2l, 1) := by decide +kernel
theorem dX6_odds_103 : decode cX6_odds 103 = .ok (.lreturn, 1) := by decide +kernel
theorem dX6_sheet_0 : decode cX6_sheet 0 = .ok (.aload_n 0, 1) := by decide +kernel
theorem dX6_sheet_1 : decode cX6_sheet 1 = .ok (.iconst 0, 1) := by decide +kernel
theorem dX6_sheet_2 : decode cX6_sheet 2 = .ok (.putfield 52, 3) := by decide +kernel
theorem dX6_sheet_5 : decode cX6_sheet 5 = .ok (.iload_n 1, 1) := by decide +kernel
theorem dX6_sheet_6 : decode cX6_sheet 6 = .ok (.invokestatic 60, 3) := by decide +kernel
theorem dX6_sheet_9 : decode cX6_sheet 9 = .ok (.ifCond .ne 5, 3) := by decide +kernel
theorem dX6_sheet_12 : decode cX6_sheet 12 = .ok (.iconst (-1), 1) := by decide +kernel
theorem dX6_sheet_13 : decode cX6_sheet 13 = .ok (.ireturn, 1) := by decide +kernel
theorem dX6_sheet_14 : decode cX6_sheet 14 = .ok (.iload_n 2, 1) := by decide +kernel
theorem dX6_sheet_15 : decode cX6_sheet 15 = .ok (.invokestatic 64, 3) := by decide +kernel
theorem dX6_sheet_18 : decode cX6_sheet 18 = .ok (.ifCond .eq 9, 3) := by decide +kernel
theorem dX6_sheet_21 : decode cX6_sheet 21 = .ok (.iload_n 3, 1) := by decide +kernel
theorem dX6_sheet_22 : decode cX6_sheet 22 = .ok (.bipush 60, 2) := by decide +kernel
theorem dX6_sheet_24 : decode cX6_sheet 24 = .ok (.if_icmp .le 6, 3) := by decide +kernel
theorem dX6_sheet_27 : decode cX6_sheet 27 = .ok (.bipush (-2), 2) := by decide +kernel
theorem dX6_sheet_29 : decode cX6_sheet 29 = .ok (.ireturn, 1) := by decide +kernel
theorem dX6_sheet_30 : decode cX6_sheet 30 = .ok (.iload_n 3, 1) := by decide +kernel
theorem dX6_sheet_31 : decode cX6_sheet 31 = .ok (.ifCond .ge 9, 3) := by decide +kernel
theorem dX6_sheet_34 : decode cX6_sheet 34 = .ok (.aload_n 0, 1) := by decide +kernel
theorem dX6_sheet_35 : decode cX6_sheet 35 = .ok (.iconst 4, 1) := by decide +kernel
theorem dX6_sheet_36 : decode cX6_sheet 36 = .ok (.invokevirtual 71, 3) := by decide +kernel
theorem dX6_sheet_39 : decode cX6_sheet 39 = .ok (.ireturn, 1) := by decide +kernel
theorem dX6_sheet_40 : decode cX6_sheet 40 = .ok (.aload_n 0, 1) := by decide +kernel
theorem dX6_sheet_41 : decode cX6_sheet 41 = .ok (.getfield 13, 3) := by decide +kernel
theorem dX6_sheet_44 : decode cX6_sheet 44 = .ok (.iload_n 1, 1) := by decide +kernel
theorem dX6_sheet_45 : decode cX6_sheet 45 = .ok (.aaload, 1) := by decide +kernel
theorem dX6_sheet_46 : decode cX6_sheet 46 = .ok (.iload_n 2, 1) := by decide +kernel
theorem dX6_sheet_47 : decode cX6_sheet 47 = .ok (.iload_n 3, 1) := by decide +kernel
theorem dX6_sheet_48 : decode cX6_sheet 48 = .ok (.invokevirtual 201, 3) := by decide +kernel
theorem dX6_sheet_51 : decode cX6_sheet 51 = .ok (.iconst 1, 1) := by decide +kernel
theorem dX6_sheet_52 : decode cX6_sheet 52 = .ok (.ireturn, 1) := by decide +kernel
theorem dX6_lose_0 : decode cX6_lose 0 = .ok (.iload_n 1, 1) := by decide +kernel
theorem dX6_lose_1 : decode cX6_lose 1 = .ok (.invokestatic 60, 3) := by decide +kernel
theorem dX6_lose_4 : decode cX6_lose 4 = .ok (.ifCond .ne 5, 3) := by decide +kernel
theorem dX6_lose_7 : decode cX6_lose 7 = .ok (.iconst (-1), 1) := by decide +kernel
theorem dX6_lose_8 : decode cX6_lose 8 = .ok (.ireturn, 1) := by decide +kernel
theorem dX6_lose_9 : decode cX6_lose 9 = .ok (.aload_n 0, 1) := by decide +kernel
theorem dX6_lose_10 : decode cX6_lose 10 = .ok (.getfield 13, 3) := by decide +kernel
theorem dX6_lose_13 : decode cX6_lose 13 = .ok (.iload_n 1, 1) := by decide +kernel
theorem dX6_lose_14 : decode cX6_lose 14 = .ok (.aaload, 1) := by decide +kernel
theorem dX6_lose_15 : decode cX6_lose 15 = .ok (.invokevirtual 205, 3) := by decide +kernel
theorem dX6_lose_18 : decode cX6_lose 18 = .ok (.ifCond .eq 7, 3) := by decide +kernel
theorem dX6_lose_21 : decode cX6_lose 21 = .ok (.iconst 1, 1) := by decide +kernel
theorem dX6_lose_22 : decode cX6_lose 22 = .ok (.goto 4, 3) := by decide +kernel
theorem dX6_lose_25 : decode cX6_lose 25 = .ok (.iconst 0, 1) := by decide +kernel
theorem dX6_lose_26 : decode cX6_lose 26 = .ok (.istore_n 2, 1) := by decide +kernel
theorem dX6_lose_27 : decode cX6_lose 27 = .ok (.aload_n 0, 1) := by decide +kernel
theorem dX6_lose_28 : decode cX6_lose 28 = .ok (.getfield 13, 3) := by decide +kernel
theorem dX6_lose_31 : decode cX6_lose 31 = .ok (.iload_n 1, 1) := by decide +kernel
theorem dX6_lose_32 : decode cX6_lose 32 = .ok (.aaload, 1) := by decide +kernel
theorem dX6_lose_33 : decode cX6_lose 33 = .ok (.invokevirtual 208, 3) := by decide +kernel
theorem dX6_lose_36 : decode cX6_lose 36 = .ok (.iload_n 2, 1) := by decide +kernel
theorem dX6_lose_37 : decode cX6_lose 37 = .ok (.ireturn, 1) := by decide +kernel
theorem dX6_put_0 : decode cX6_put 0 = .ok (.aload_n 0, 1) := by decide +kernel
theorem dX6_put_1 : decode cX6_put 1 = .ok (.iconst 0, 1) := by decide +kernel
theorem dX6_put_2 : decode cX6_put 2 = .ok (.putfield 52, 3) := by decide +kernel
theorem dX6_put_5 : decode cX6_put 5 = .ok (.iload_n 1, 1) := by decide +kernel
theorem dX6_put_6 : decode cX6_put 6 = .ok (.invokestatic 60, 3) := by decide +kernel
theorem dX6_put_9 : decode cX6_put 9 = .ok (.ifCond .ne 5, 3) := by decide +kernel
theorem dX6_put_12 : decode cX6_put 12 = .ok (.iconst (-1), 1) := by decide +kernel
theorem dX6_put_13 : decode cX6_put 13 = .ok (.ireturn, 1) := by decide +kernel
theorem dX6_put_14 : decode cX6_put 14 = .ok (.aload_n 0, 1) := by decide +kernel
theorem dX6_put_15 : decode cX6_put 15 = .ok (.getfield 13, 3) := by decide +kernel
theorem dX6_put_18 : decode cX6_put 18 = .ok (.iload_n 1, 1) := by decide +kernel
theorem dX6_put_19 : decode cX6_put 19 = .ok (.aaload, 1) := by decide +kernel
theorem dX6_put_20 : decode cX6_put 20 = .ok (.invokevirtual 205, 3) := by decide +kernel
theorem dX6_put_23 : decode cX6_put 23 = .ok (.ifCond .ne 9, 3) := by decide +kernel
theorem dX6_put_26 : decode cX6_put 26 = .ok (.aload_n 0, 1) := by decide +kernel
theorem dX6_put_27 : decode cX6_put 27 = .ok (.iconst 1, 1) := by decide +kernel
theorem dX6_put_28 : decode cX6_put 28 = .ok (.invokevirtual 71, 3) := by decide +kernel
theorem dX6_put_31 : decode cX6_put 31 = .ok (.ireturn, 1) := by decide +kernel
theorem dX6_put_32 : decode cX6_put 32 = .ok (.aload_n 0, 1) := by decide +kernel
theorem dX6_put_33 : decode cX6_put 33 = .ok (.getfield 13, 3) := by decide +kernel
theorem dX6_put_36 : decode cX6_put 36 = .ok (.iload_n 1, 1) := by decide +kernel
theorem dX6_put_37 : decode cX6_put 37 = .ok (.aaload, 1) := by decide +kernel
theorem dX6_put_38 : decode cX6_put 38 = .ok (.iload_n 2, 1) := by decide +kernel
theorem dX6_put_39 : decode cX6_put 39 = .ok (.invokevirtual 209, 3) := by decide +kernel
theorem dX6_put_42 : decode cX6_put 42 = .ok (.ifCond .ne 9, 3) := by decide +kernel
theorem dX6_put_45 : decode cX6_put 45 = .ok (.aload_n 0, 1) := by decide +kernel
theorem dX6_put_46 : decode cX6_put 46 = .ok (.iconst 3, 1) := by decide +kernel
theorem dX6_put_47 : decode cX6_put 47 = .ok (.invokevirtual 71, 3) := by decide +kernel
theorem dX6_put_50 : decode cX6_put 50 = .ok (.ireturn, 1) := by decide +kernel
theorem dX6_put_51 : decode cX6_put 51 = .ok (.aload_n 0, 1) := by decide +kernel
theorem dX6_put_52 : decode cX6_put 52 = .ok (.getfield 13, 3) := by decide +kernel
theorem dX6_put_55 : decode cX6_put 55 = .ok (.iload_n 1, 1) := by decide +kernel
theorem dX6_put_56 : decode cX6_put 56 = .ok (.aaload, 1) := by decide +kernel
theorem dX6_put_57 : decode cX6_put 57 = .ok (.iload_n 2, 1) := by decide +kernel
theorem dX6_put_58 : decode cX6_put 58 = .ok (.iload_n 3, 1) := by decide +kernel
theorem dX6_put_59 : decode cX6_put 59 = .ok (.invokevirtual 212, 3) := by decide +kernel
theorem dX6_put_62 : decode cX6_put 62 = .ok (.iconst 1, 1) := by decide +kernel
theorem dX6_put_63 : decode cX6_put 63 = .ok (.ireturn, 1) := by decide +kernel
theorem dX6_cell_0 : decode cX6_cell 0 = .ok (.aload_n 0, 1) := by decide +kernel
theorem dX6_cell_1 : decode cX6_cell 1 = .ok (.iconst 0, 1) := by decide +kernel
theorem dX6_cell_2 : decode cX6_cell 2 = .ok (.putfield 52, 3) := by decide +kernel
theorem dX6_cell_5 : decode cX6_cell 5 = .ok (.iload_n 1, 1) := by decide +kernel
theorem dX6_cell_6 : decode cX6_cell 6 = .ok (.invokestatic 60, 3) := by decide +kernel
theorem dX6_cell_9 : decode cX6_cell 9 = .ok (.ifCond .eq 10, 3) := by decide +kernel
theorem dX6_cell_12 : decode cX6_cell 12 = .ok (.iload_n 3, 1) := by decide +kernel
theorem dX6_cell_13 : decode cX6_cell 13 = .ok (.invokestatic 64, 3) := by decide +kernel
theorem dX6_cell_16 : decode cX6_cell 16 = .ok (.ifCond .ne 7, 3) := by decide +kernel
theorem dX6_cell_19 : decode cX6_cell 19 = .ok (.ldc2_w 196, 3) := by decide +kernel
theorem dX6_cell_22 : decode cX6_cell 22 = .ok (.lreturn, 1) := by decide +kernel
theorem dX6_cell_23 : decode cX6_cell 23 = .ok (.aload_n 0, 1) := by decide +kernel
theorem dX6_cell_24 : decode cX6_cell 24 = .ok (.aload_n 0, 1) := by decide +kernel
theorem dX6_cell_25 : decode cX6_cell 25 = .ok (.getfield 13, 3) := by decide +kernel
theorem dX6_cell_28 : decode cX6_cell 28 = .ok (.iload_n 1, 1) := by decide +kernel
theorem dX6_cell_29 : decode cX6_cell 29 = .ok (.aaload, 1) := by decide +kernel
theorem dX6_cell_30 : decode cX6_cell 30 = .ok (.iload_n 3, 1) := by decide +kernel
theorem dX6_cell_31 : decode cX6_cell 31 = .ok (.iload_n 2, 1) := by decide +kernel
theorem dX6_cell_32 : decode cX6_cell 32 = .ok (.invokevirtual 215, 3) := by decide +kernel
theorem dX6_cell_35 : decode cX6_cell 35 = .ok (.putfield 52, 3) := by decide +kernel
theorem dX6_cell_38 : decode cX6_cell 38 = .ok (.aload_n 0, 1) := by decide +kernel
theorem dX6_cell_39 : decode cX6_cell 39 = .ok (.getfield 52, 3) := by decide +kernel
theorem dX6_cell_42 : decode cX6_cell 42 = .ok (.ifCond .ne 18, 3) := by decide +kernel
theorem dX6_cell_45 : decode cX6_cell 45 = .ok (.aload_n 0, 1) := by decide +kernel
theorem dX6_cell_46 : decode cX6_cell 46 = .ok (.getfield 13, 3) := by decide +kernel
theorem dX6_cell_49 : decode cX6_cell 49 = .ok (.iload_n 1, 1) := by decide +kernel
theorem dX6_cell_50 : decode cX6_cell 50 = .ok (.aaload, 1) := by decide +kernel
theorem dX6_cell_51 : decode cX6_cell 51 = .ok (.getfield 218, 3) := by decide +kernel
theorem dX6_cell_54 : decode cX6_cell 54 = .ok (.iload_n 2, 1) := by decide +kernel
theorem dX6_cell_55 : decode cX6_cell 55 = .ok (.iaload, 1) := by decide +kernel
theorem dX6_cell_56 : decode cX6_cell 56 = .ok (.i2l, 1) := by decide +kernel
theorem dX6_cell_57 : decode cX6_cell 57 = .ok (.goto 6, 3) := by decide +kernel
theorem dX6_cell_60 : decode cX6_cell 60 = .ok (.ldc2_w 196, 3) := by decide +kernel
theorem dX6_cell_63 : decode cX6_cell 63 = .ok (.lreturn, 1) := by decide +kernel
theorem dX6_copy_0 : decode cX6_copy 0 = .ok (.aload_n 0, 1) := by decide +kernel
theorem dX6_copy_1 : decode cX6_copy 1 = .ok (.iconst 0, 1) := by decide +kernel
theorem dX6_copy_2 : decode cX6_copy 2 = .ok (.putfield 52, 3) := by decide +kernel
theorem dX6_copy_5 : decode cX6_copy 5 = .ok (.iload_n 1, 1) := by decide +kernel
theorem dX6_copy_6 : decode cX6_copy 6 = .ok (.invokestatic 60, 3) := by decide +kernel
theorem dX6_copy_9 : decode cX6_copy 9 = .ok (.ifCond .eq 10, 3) := by decide +kernel
theorem dX6_copy_12 : decode cX6_copy 12 = .ok (.iload_n 3, 1) := by decide +kernel
theorem dX6_copy_13 : decode cX6_copy 13 = .ok (.invokestatic 60, 3) := by decide +kernel
theorem dX6_copy_16 : decode cX6_copy 16 = .ok (.ifCond .ne 5, 3) := by decide +kernel
theorem dX6_copy_19 : decode cX6_copy 19 = .ok (.iconst (-1), 1) := by decide +kernel
theorem dX6_copy_20 : decode cX6_copy 20 = .ok (.ireturn, 1) := by decide +kernel
theorem dX6_copy_21 : decode cX6_copy 21 = .ok (.aload_n 0, 1) := by decide +kernel
theorem dX6_copy_22 : decode cX6_copy 22 = .ok (.getfield 13, 3) := by decide +kernel
theorem dX6_copy_25 : decode cX6_copy 25 = .ok (.iload_n 1, 1) := by decide +kernel
theorem dX6_copy_26 : decode cX6_copy 26 = .ok (.aaload, 1) := by decide +kernel
theorem dX6_copy_27 : decode cX6_copy 27 = .ok (.astore 6, 2) := by decide +kernel
theorem dX6_copy_29 : decode cX6_copy 29 = .ok (.aload_n 0, 1) := by decide +kernel
theorem dX6_copy_30 : decode cX6_copy 30 = .ok (.getfield 13, 3) := by decide +kernel
theorem dX6_copy_33 : decode cX6_copy 33 = .ok (.iload_n 3, 1) := by decide +kernel
theorem dX6_copy_34 : decode cX6_copy 34 = .ok (.aaload, 1) := by decide +kernel
theorem dX6_copy_35 : decode cX6_copy 35 = .ok (.astore 7, 2) := by decide +kernel
theorem dX6_copy_37 : decode cX6_copy 37 = .ok (.aload 6, 2) := by decide +kernel
theorem dX6_copy_39 : decode cX6_copy 39 = .ok (.invokevirtual 205, 3) := by decide +kernel
theorem dX6_copy_42 : decode cX6_copy 42 = .ok (.ifCond .eq 11, 3) := by decide +kernel
theorem dX6_copy_45 : decode cX6_copy 45 = .ok (.aload 7, 2) := by decide +kernel
theorem dX6_copy_47 : decode cX6_copy 47 = .ok (.invokevirtual 205, 3) := by decide +kernel
theorem dX6_copy_50 : decode cX6_copy 50 = .ok (.ifCond .ne 9, 3) := by decide +kernel
theorem dX6_copy_53 : decode cX6_copy 53 = .ok (.aload_n 0, 1) := by decide +kernel
theorem dX6_copy_54 : decode cX6_copy 54 = .ok (.iconst 1, 1) := by decide +kernel
theorem dX6_copy_55 : decode cX6_copy 55 = .ok (.invokevirtual 71, 3) := by decide +kernel
theorem dX6_copy_58 : decode cX6_copy 58 = .ok (.ireturn, 1) := by decide +kernel
theorem dX6_copy_59 : decode cX6_copy 59 = .ok (.aload 6, 2) := by decide +kernel
theorem dX6_copy_61 : decode cX6_copy 61 = .ok (.getfield 221, 3) := by decide +kernel
theorem dX6_copy_64 : decode cX6_copy 64 = .ok (.aload 7, 2) := by decide +kernel
theorem dX6_copy_66 : decode cX6_copy 66 = .ok (.getfield 221, 3) := by decide +kernel
theorem dX6_copy_69 : decode cX6_copy 69 = .ok (.if_icmp .eq 9, 3) := by decide +kernel
theorem dX6_copy_72 : decode cX6_copy 72 = .ok (.aload_n 0, 1) := by decide +kernel
theorem dX6_copy_73 : decode cX6_copy 73 = .ok (.iconst 2, 1) := by decide +kernel
theorem dX6_copy_74 : decode cX6_copy 74 = .ok (.invokevirtual 71, 3) := by decide +kernel
theorem dX6_copy_77 : decode cX6_copy 77 = .ok (.ireturn, 1) := by decide +kernel
theorem dX6_copy_78 : decode cX6_copy 78 = .ok (.aload 6, 2) := by decide +kernel
theorem dX6_copy_80 : decode cX6_copy 80 = .ok (.iload_n 2, 1) := by decide +kernel
theorem dX6_copy_81 : decode cX6_copy 81 = .ok (.iload 5, 2) := by decide +kernel
theorem dX6_copy_83 : decode cX6_copy 83 = .ok (.invokevirtual 224, 3) := by decide +kernel
theorem dX6_copy_86 : decode cX6_copy 86 = .ok (.ifCond .eq 15, 3) := by decide +kernel
theorem dX6_copy_89 : decode cX6_copy 89 = .ok (.aload 7, 2) := by decide +kernel
theorem dX6_copy_91 : decode cX6_copy 91 = .ok (.iload 4, 2) := by decide +kernel
theorem dX6_copy_93 : decode cX6_copy 93 = .ok (.iload 5, 2) := by decide +kernel
theorem dX6_copy_95 : decode cX6_copy 95 = .ok (.invokevirtual 224, 3) := by decide +kernel
theorem dX6_copy_98 : decode cX6_copy 98 = .ok (.ifCond .ne 9, 3) := by decide +kernel
theorem dX6_copy_101 : decode cX6_copy 101 = .ok (.aload_n 0, 1) := by decide +kernel
theorem dX6_copy_102 : decode cX6_copy 102 = .ok (.iconst 3, 1) := by decide +kernel
theorem dX6_copy_103 : decode cX6_copy 103 = .ok (.invokevirtual 71, 3) := by decide +kernel
theorem dX6_copy_106 : decode cX6_copy 106 = .ok (.ireturn, 1) := by decide +kernel
theorem dX6_copy_107 : decode cX6_copy 107 = .ok (.aload 6, 2) := by decide +kernel
theorem dX6_copy_109 : decode cX6_copy 109 = .ok (.getfield 218, 3) := by decide +kernel
theorem dX6_copy_112 : decode cX6_copy 112 = .ok (.iload_n 2, 1) := by decide +kernel
theorem dX6_copy_113 : decode cX6_copy 113 = .ok (.aload 7, 2) := by decide +kernel
theorem dX6_copy_115 : decode cX6_copy 115 = .ok (.getfield 218, 3) := by decide +kernel
theorem dX6_copy_118 : decode cX6_copy 118 = .ok (.iload 4, 2) := by decide +kernel
theorem dX6_copy_120 : decode cX6_copy 120 = .ok (.iload 5, 2) := by decide +kernel
theorem dX6_copy_122 : decode cX6_copy 122 = .ok (.invokestatic 228, 3) := by decide +kernel
theorem dX6_copy_125 : decode cX6_copy 125 = .ok (.iload 5, 2) := by decide +kernel
theorem dX6_copy_127 : decode cX6_copy 127 = .ok (.ireturn, 1) := by decide +kernel
theorem dX6_tell_0 : decode cX6_tell 0 = .ok (.aload_n 0, 1) := by decide +kernel
theorem dX6_tell_1 : decode cX6_tell 1 = .ok (.getfield 20, 3) := by decide +kernel
theorem dX6_tell_4 : decode cX6_tell 4 = .ok (.iload_n 1, 1) := by decide +kernel
theorem dX6_tell_5 : decode cX6_tell 5 = .ok (.invokevirtual 97, 3) := by decide +kernel
theorem dX6_tell_8 : decode cX6_tell 8 = .ok (.ifCond .ne 5, 3) := by decide +kernel
theorem dX6_tell_11 : decode cX6_tell 11 = .ok (.iconst (-1), 1) := by decide +kernel
theorem dX6_tell_12 : decode cX6_tell 12 = .ok (.ireturn, 1) := by decide +kernel
theorem dX6_tell_13 : decode cX6_tell 13 = .ok (.aload_n 0, 1) := by decide +kernel
theorem dX6_tell_14 : decode cX6_tell 14 = .ok (.getfield 20, 3) := by decide +kernel
theorem dX6_tell_17 : decode cX6_tell 17 = .ok (.getfield 100, 3) := by decide +kernel
theorem dX6_tell_20 : decode cX6_tell 20 = .ok (.iload_n 1, 1) := by decide +kernel
theorem dX6_tell_21 : decode cX6_tell 21 = .ok (.iaload, 1) := by decide +kernel
theorem dX6_tell_22 : decode cX6_tell 22 = .ok (.lookupswitch 38 #[(1, 32), (2, 26)], 26) := by decide +kernel
theorem dX6_tell_48 : decode cX6_tell 48 = .ok (.aload_n 0, 1) := by decide +kernel
theorem dX6_tell_49 : decode cX6_tell 49 = .ok (.iload_n 1, 1) := by decide +kernel
theorem dX6_tell_50 : decode cX6_tell 50 = .ok (.invokevirtual 234, 3) := by decide +kernel
theorem dX6_tell_53 : decode cX6_tell 53 = .ok (.ireturn, 1) := by decide +kernel
theorem dX6_tell_54 : decode cX6_tell 54 = .ok (.aload_n 0, 1) := by decide +kernel
theorem dX6_tell_55 : decode cX6_tell 55 = .ok (.iload_n 1, 1) := by decide +kernel
theorem dX6_tell_56 : decode cX6_tell 56 = .ok (.invokevirtual 237, 3) := by decide +kernel
theorem dX6_tell_59 : decode cX6_tell 59 = .ok (.ireturn, 1) := by decide +kernel
theorem dX6_tell_60 : decode cX6_tell 60 = .ok (.aload_n 0, 1) := by decide +kernel
theorem dX6_tell_61 : decode cX6_tell 61 = .ok (.iload_n 1, 1) := by decide +kernel
theorem dX6_tell_62 : decode cX6_tell 62 = .ok (.invokevirtual 240, 3) := by decide +kernel
theorem dX6_tell_65 : decode cX6_tell 65 = .ok (.ireturn, 1) := by decide +kernel
theorem dX6_light_0 : decode cX6_light 0 = .ok (.aload_n 0, 1) := by decide +kernel
theorem dX6_light_1 : decode cX6_light 1 = .ok (.getfield 20, 3) := by decide +kernel
theorem dX6_light_4 : decode cX6_light 4 = .ok (.iload_n 1, 1) := by decide +kernel
theorem dX6_light_5 : decode cX6_light 5 = .ok (.invokevirtual 97, 3) := by decide +kernel
theorem dX6_light_8 : decode cX6_light 8 = .ok (.ifCond .ne 5, 3) := by decide +kernel
theorem dX6_light_11 : decode cX6_light 11 = .ok (.iconst (-1), 1) := by decide +kernel
theorem dX6_light_12 : decode cX6_light 12 = .ok (.ireturn, 1) := by decide +kernel
theorem dX6_light_13 : decode cX6_light 13 = .ok (.aload_n 0, 1) := by decide +kernel
theorem dX6_light_14 : decode cX6_light 14 = .ok (.getfield 20, 3) := by decide +kernel
theorem dX6_light_17 : decode cX6_light 17 = .ok (.getfield 100, 3) := by decide +kernel
theorem dX6_light_20 : decode cX6_light 20 = .ok (.iload_n 1, 1) := by decide +kernel
theorem dX6_light_21 : decode cX6_light 21 = .ok (.iaload, 1) := by decide +kernel
theorem dX6_light_22 : decode cX6_light 22 = .ok (.iconst 2, 1) := by decide +kernel
theorem dX6_light_23 : decode cX6_light 23 = .ok (.if_icmp .ne 10, 3) := by decide +kernel
theorem dX6_light_26 : decode cX6_light 26 = .ok (.aload_n 0, 1) := by decide +kernel
theorem dX6_light_27 : decode cX6_light 27 = .ok (.invokevirtual 243, 3) := by decide +kernel
theorem dX6_light_30 : decode cX6_light 30 = .ok (.goto 8, 3) := by decide +kernel
theorem dX6_light_33 : decode cX6_light 33 = .ok (.aload_n 0, 1) := by decide +kernel
theorem dX6_light_34 : decode cX6_light 34 = .ok (.iload_n 1, 1) := by decide +kernel
theorem dX6_light_35 : decode cX6_light 35 = .ok (.invokevirtual 246, 3) := by decide +kernel
theorem dX6_light_38 : decode cX6_light 38 = .ok (.ireturn, 1) := by decide +kernel
theorem dX6_as_0 : decode cX6_as 0 = .ok (.aload_n 0, 1) := by decide +kernel
theorem dX6_as_1 : decode cX6_as 1 = .ok (.iconst 0, 1) := by decide +kernel
theorem dX6_as_2 : decode cX6_as 2 = .ok (.putfield 52, 3) := by decide +kernel
theorem dX6_as_5 : decode cX6_as 5 = .ok (.aload_n 0, 1) := by decide +kernel
theorem dX6_as_6 : decode cX6_as 6 = .ok (.getfield 20, 3) := by decide +kernel
theorem dX6_as_9 : decode cX6_as 9 = .ok (.iload_n 1, 1) := by decide +kernel
theorem dX6_as_10 : decode cX6_as 10 = .ok (.invokevirtual 97, 3) := by decide +kernel
theorem dX6_as_13 : decode cX6_as 13 = .ok (.ifCond .ne 5, 3) := by decide +kernel
theorem dX6_as_16 : decode cX6_as 16 = .ok (.iconst (-1), 1) := by decide +kernel
theorem dX6_as_17 : decode cX6_as 17 = .ok (.ireturn, 1) := by decide +kernel
theorem dX6_as_18 : decode cX6_as 18 = .ok (.iload_n 2, 1) := by decide +kernel
theorem dX6_as_19 : decode cX6_as 19 = .ok (.ifCond .lt 8, 3) := by decide +kernel
theorem dX6_as_22 : decode cX6_as 22 = .ok (.iload_n 2, 1) := by decide +kernel
theorem dX6_as_23 : decode cX6_as 23 = .ok (.iconst 3, 1) := by decide +kernel
theorem dX6_as_24 : decode cX6_as 24 = .ok (.if_icmp .lt 6, 3) := by decide +kernel
theorem dX6_as_27 : decode cX6_as 27 = .ok (.bipush (-2), 2) := by decide +kernel
theorem dX6_as_29 : decode cX6_as 29 = .ok (.ireturn, 1) := by decide +kernel
theorem dX6_as_30 : decode cX6_as 30 = .ok (.aload_n 0, 1) := by decide +kernel
theorem dX6_as_31 : decode cX6_as 31 = .ok (.getfield 20, 3) := by decide +kernel
theorem dX6_as_34 : decode cX6_as 34 = .ok (.getfield 100, 3) := by decide +kernel
theorem dX6_as_37 : decode cX6_as 37 = .ok (.iload_n 1, 1) := by decide +kernel
theorem dX6_as_38 : decode cX6_as 38 = .ok (.iaload, 1) := by decide +kernel
theorem dX6_as_39 : decode cX6_as 39 = .ok (.iload_n 2, 1) := by decide +kernel
theorem dX6_as_40 : decode cX6_as 40 = .ok (.if_icmp .lt 7, 3) := by decide +kernel
theorem dX6_as_43 : decode cX6_as 43 = .ok (.iconst 1, 1) := by decide +kernel
theorem dX6_as_44 : decode cX6_as 44 = .ok (.goto 8, 3) := by decide +kernel
theorem dX6_as_47 : decode cX6_as 47 = .ok (.aload_n 0, 1) := by decide +kernel
theorem dX6_as_48 : decode cX6_as 48 = .ok (.iconst 2, 1) := by decide +kernel
theorem dX6_as_49 : decode cX6_as 49 = .ok (.invokevirtual 71, 3) := by decide +kernel
theorem dX6_as_52 : decode cX6_as 52 = .ok (.ireturn, 1) := by decide +kernel
theorem dX6_trace_0 : decode cX6_trace 0 = .ok (.aload_n 0, 1) := by decide +kernel
theorem dX6_trace_1 : decode cX6_trace 1 = .ok (.getfield 56, 3) := by decide +kernel
theorem dX6_trace_4 : decode cX6_trace 4 = .ok (.ireturn, 1) := by decide +kernel
theorem dX6_fault_0 : decode cX6_fault 0 = .ok (.aload_n 0, 1) := by decide +kernel
theorem dX6_fault_1 : decode cX6_fault 1 = .ok (.getfield 52, 3) := by decide +kernel
theorem dX6_fault_4 : decode cX6_fault 4 = .ok (.ireturn, 1) := by decide +kernel
theorem dX6_many_0 : decode cX6_many 0 = .ok (.iload_n 1, 1) := by decide +kernel
theorem dX6_many_1 : decode cX6_many 1 = .ok (.tableswitch 75 0 4 #[35, 43, 51, 59, 67], 35) := by decide +kernel
theorem dX6_many_36 : decode cX6_many 36 = .ok (.aload_n 0, 1) := by decide +kernel
theorem dX6_many_37 : decode cX6_many 37 = .ok (.getfield 20, 3) := by decide +kernel
theorem dX6_many_40 : decode cX6_many 40 = .ok (.getfield 249, 3) := by decide +kernel
theorem dX6_many_43 : decode cX6_many 43 = .ok (.ireturn, 1) := by decide +kernel
theorem dX6_many_44 : decode cX6_many 44 = .ok (.aload_n 0, 1) := by decide +kernel
theorem dX6_many_45 : decode cX6_many 45 = .ok (.getfield 20, 3) := by decide +kernel
theorem dX6_many_48 : decode cX6_many 48 = .ok (.getfield 164, 3) := by decide +kernel
theorem dX6_many_51 : decode cX6_many 51 = .ok (.ireturn, 1) := by decide +kernel
theorem dX6_many_52 : decode cX6_many 52 = .ok (.aload_n 0, 1) := by decide +kernel
theorem dX6_many_53 : decode cX6_many 53 = .ok (.getfield 20, 3) := by decide +kernel
theorem dX6_many_56 : decode cX6_many 56 = .ok (.getfield 94, 3) := by decide +kernel
theorem dX6_many_59 : decode cX6_many 59 = .ok (.ireturn, 1) := by decide +kernel
theorem dX6_many_60 : decode cX6_many 60 = .ok (.aload_n 0, 1) := by decide +kernel
theorem dX6_many_61 : decode cX6_many 61 = .ok (.getfield 20, 3) := by decide +kernel
theorem dX6_many_64 : decode cX6_many 64 = .ok (.getfield 133, 3) := by decide +kernel
theorem dX6_many_67 : decode cX6_many 67 = .ok (.ireturn, 1) := by decide +kernel
theorem dX6_many_68 : decode cX6_many 68 = .ok (.aload_n 0, 1) := by decide +kernel
theorem dX6_many_69 : decode cX6_many 69 = .ok (.getfield 39, 3) := by decide +kernel
theorem dX6_many_72 : decode cX6_many 72 = .ok (.getfield 178, 3) := by decide +kernel
theorem dX6_many_75 : decode cX6_many 75 = .ok (.ireturn, 1) := by decide +kernel
theorem dX6_many_76 : decode cX6_many 76 = .ok (.bipush (-2), 2) := by decide +kernel
theorem dX6_many_78 : decode cX6_many 78 = .ok (.ireturn, 1) := by decide +kernel
theorem dX6_isSheet_0 : decode cX6_isSheet 0 = .ok (.iload_n 0, 1) := by decide +kernel
theorem dX6_isSheet_1 : decode cX6_isSheet 1 = .ok (.ifCond .lt 12, 3) := by decide +kernel
theorem dX6_isSheet_4 : decode cX6_isSheet 4 = .ok (.iload_n 0, 1) := by decide +kernel
theorem dX6_isSheet_5 : decode cX6_isSheet 5 = .ok (.iconst 4, 1) := by decide +kernel
theorem dX6_isSheet_6 : decode cX6_isSheet 6 = .ok (.if_icmp .ge 7, 3) := by decide +kernel
theorem dX6_isSheet_9 : decode cX6_isSheet 9 = .ok (.iconst 1, 1) := by decide +kernel
theorem dX6_isSheet_10 : decode cX6_isSheet 10 = .ok (.goto 4, 3) := by decide +kernel
theorem dX6_isSheet_13 : decode cX6_isSheet 13 = .ok (.iconst 0, 1) := by decide +kernel
theorem dX6_isSheet_14 : decode cX6_isSheet 14 = .ok (.ireturn, 1) := by decide +kernel
theorem dX6_isLane_0 : decode cX6_isLane 0 = .ok (.iload_n 0, 1) := by decide +kernel
theorem dX6_isLane_1 : decode cX6_isLane 1 = .ok (.ifCond .lt 12, 3) := by decide +kernel
theorem dX6_isLane_4 : decode cX6_isLane 4 = .ok (.iload_n 0, 1) := by decide +kernel
theorem dX6_isLane_5 : decode cX6_isLane 5 = .ok (.iconst 3, 1) := by decide +kernel
theorem dX6_isLane_6 : decode cX6_isLane 6 = .ok (.if_icmp .ge 7, 3) := by decide +kernel
theorem dX6_isLane_9 : decode cX6_isLane 9 = .ok (.iconst 1, 1) := by decide +kernel
theorem dX6_isLane_10 : decode cX6_isLane 10 = .ok (.goto 4, 3) := by decide +kernel
theorem dX6_isLane_13 : decode cX6_isLane 13 = .ok (.iconst 0, 1) := by decide +kernel
theorem dX6_isLane_14 : decode cX6_isLane 14 = .ok (.ireturn, 1) := by decide +kernel
theorem dX6_faulted_0 : decode cX6_faulted 0 = .ok (.aload_n 0, 1) := by decide +kernel
theorem dX6_faulted_1 : decode cX6_faulted 1 = .ok (.iload_n 1, 1) := by decide +kernel
theorem dX6_faulted_2 : decode cX6_faulted 2 = .ok (.putfield 52, 3) := by decide +kernel
theorem dX6_faulted_5 : decode cX6_faulted 5 = .ok (.bipush (-10), 2) := by decide +kernel
theorem dX6_faulted_7 : decode cX6_faulted 7 = .ok (.iload_n 1, 1) := by decide +kernel
theorem dX6_faulted_8 : decode cX6_faulted 8 = .ok (.isub, 1) := by decide +kernel
theorem dX6_faulted_9 : decode cX6_faulted 9 = .ok (.ireturn, 1) := by decide +kernel
theorem dX6_firstElsewhere_0 : decode cX6_firstElsewhere 0 = .ok (.aload_n 0, 1) := by decide +kernel
theorem dX6_firstElsewhere_1 : decode cX6_firstElsewhere 1 = .ok (.getfield 32, 3) := by decide +kernel
theorem dX6_firstElsewhere_4 : decode cX6_firstElsewhere 4 = .ok (.iload_n 1, 1) := by decide +kernel
theorem dX6_firstElsewhere_5 : decode cX6_firstElsewhere 5 = .ok (.invokevirtual 142, 3) := by decide +kernel
theorem dX6_firstElsewhere_8 : decode cX6_firstElsewhere 8 = .ok (.iconst 0, 1) := by decide +kernel
theorem dX6_firstElsewhere_9 : decode cX6_firstElsewhere 9 = .ok (.istore 5, 2) := by decide +kernel
theorem dX6_firstElsewhere_11 : decode cX6_firstElsewhere 11 = .ok (.iload 5, 2) := by decide +kernel
theorem dX6_firstElsewhere_13 : decode cX6_firstElsewhere 13 = .ok (.iload 4, 2) := by decide +kernel
theorem dX6_firstElsewhere_15 : decode cX6_firstElsewhere 15 = .ok (.if_icmp .ge 34, 3) := by decide +kernel
theorem dX6_firstElsewhere_18 : decode cX6_firstElsewhere 18 = .ok (.aload_n 2, 1) := by decide +kernel
theorem dX6_firstElsewhere_19 : decode cX6_firstElsewhere 19 = .ok (.getfield 218, 3) := by decide +kernel
theorem dX6_firstElsewhere_22 : decode cX6_firstElsewhere 22 = .ok (.iload_n 3, 1) := by decide +kernel
theorem dX6_firstElsewhere_23 : decode cX6_firstElsewhere 23 = .ok (.iload 5, 2) := by decide +kernel
theorem dX6_firstElsewhere_25 : decode cX6_firstElsewhere 25 = .ok (.iadd, 1) := by decide +kernel
theorem dX6_firstElsewhere_26 : decode cX6_firstElsewhere 26 = .ok (.iaload, 1) := by decide +kernel
theorem dX6_firstElsewhere_27 : decode cX6_firstElsewhere 27 = .ok (.aload_n 0, 1) := by decide +kernel
theorem dX6_firstElsewhere_28 : decode cX6_firstElsewhere 28 = .ok (.getfield 32, 3) := by decide +kernel
theorem dX6_firstElsewhere_31 : decode cX6_firstElsewhere 31 = .ok (.iload 5, 2) := by decide +kernel
theorem dX6_firstElsewhere_33 : decode cX6_firstElsewhere 33 = .ok (.iload_n 1, 1) := by decide +kernel
theorem dX6_firstElsewhere_34 : decode cX6_firstElsewhere 34 = .ok (.invokevirtual 146, 3) := by decide +kernel
theorem dX6_firstElsewhere_37 : decode cX6_firstElsewhere 37 = .ok (.if_icmp .eq 6, 3) := by decide +kernel
theorem dX6_firstElsewhere_40 : decode cX6_firstElsewhere 40 = .ok (.iload 5, 2) := by decide +kernel
theorem dX6_firstElsewhere_42 : decode cX6_firstElsewhere 42 = .ok (.ireturn, 1) := by decide +kernel
theorem dX6_firstElsewhere_43 : decode cX6_firstElsewhere 43 = .ok (.iinc 5 1, 3) := by decide +kernel
theorem dX6_firstElsewhere_46 : decode cX6_firstElsewhere 46 = .ok (.goto (-35), 3) := by decide +kernel
theorem dX6_firstElsewhere_49 : decode cX6_firstElsewhere 49 = .ok (.bipush (-9), 2) := by decide +kernel
theorem dX6_firstElsewhere_51 : decode cX6_firstElsewhere 51 = .ok (.ireturn, 1) := by decide +kernel
theorem dX6_beginBody_0 : decode cX6_beginBody 0 = .ok (.aload_n 0, 1) := by decide +kernel
theorem dX6_beginBody_1 : decode cX6_beginBody 1 = .ok (.bipush 31, 2) := by decide +kernel
theorem dX6_beginBody_3 : decode cX6_beginBody 3 = .ok (.aload_n 0, 1) := by decide +kernel
theorem dX6_beginBody_4 : decode cX6_beginBody 4 = .ok (.getfield 56, 3) := by decide +kernel
theorem dX6_beginBody_7 : decode cX6_beginBody 7 = .ok (.imul, 1) := by decide +kernel
theorem dX6_beginBody_8 : decode cX6_beginBody 8 = .ok (.iload_n 1, 1) := by decide +kernel
theorem dX6_beginBody_9 : decode cX6_beginBody 9 = .ok (.iadd, 1) := by decide +kernel
theorem dX6_beginBody_10 : decode cX6_beginBody 10 = .ok (.putfield 56, 3) := by decide +kernel
theorem dX6_beginBody_13 : decode cX6_beginBody 13 = .ok (.return_, 1) := by decide +kernel
theorem dX6_innTelling_0 : decode cX6_innTelling 0 = .ok (.aload_n 0, 1) := by decide +kernel
theorem dX6_innTelling_1 : decode cX6_innTelling 1 = .ok (.iconst 1, 1) := by decide +kernel
theorem dX6_innTelling_2 : decode cX6_innTelling 2 = .ok (.invokevirtual 252, 3) := by decide +kernel
theorem dX6_innTelling_5 : decode cX6_innTelling 5 = .ok (.aload_n 0, 1) := by decide +kernel
theorem dX6_innTelling_6 : decode cX6_innTelling 6 = .ok (.getfield 20, 3) := by decide +kernel
theorem dX6_innTelling_9 : decode cX6_innTelling 9 = .ok (.getfield 104, 3) := by decide +kernel
theorem dX6_innTelling_12 : decode cX6_innTelling 12 = .ok (.iload_n 1, 1) := by decide +kernel
theorem dX6_innTelling_13 : decode cX6_innTelling 13 = .ok (.iaload, 1) := by decide +kernel
theorem dX6_innTelling_14 : decode cX6_innTelling 14 = .ok (.ireturn, 1) := by decide +kernel
theorem dX6_lodgeTelling_0 : decode cX6_lodgeTelling 0 = .ok (.aload_n 0, 1) := by decide +kernel
theorem dX6_lodgeTelling_1 : decode cX6_lodgeTelling 1 = .ok (.iconst 2, 1) := by decide +kernel
theorem dX6_lodgeTelling_2 : decode cX6_lodgeTelling 2 = .ok (.invokevirtual 252, 3) := by decide +kernel
theorem dX6_lodgeTelling_5 : decode cX6_lodgeTelling 5 = .ok (.aload_n 0, 1) := by decide +kernel
theorem dX6_lodgeTelling_6 : decode cX6_lodgeTelling 6 = .ok (.iload_n 1, 1) := by decide +kernel
theorem dX6_lodgeTelling_7 : decode cX6_lodgeTelling 7 = .ok (.invokevirtual 240, 3) := by decide +kernel
theorem dX6_lodgeTelling_10 : decode cX6_lodgeTelling 10 = .ok (.bipush 100, 2) := by decide +kernel
theorem dX6_lodgeTelling_12 : decode cX6_lodgeTelling 12 = .ok (.iadd, 1) := by decide +kernel
theorem dX6_lodgeTelling_13 : decode cX6_lodgeTelling 13 = .ok (.ireturn, 1) := by decide +kernel
theorem dX6_castleTelling_0 : decode cX6_castleTelling 0 = .ok (.aload_n 0, 1) := by decide +kernel
theorem dX6_castleTelling_1 : decode cX6_castleTelling 1 = .ok (.iconst 3, 1) := by decide +kernel
theorem dX6_castleTelling_2 : decode cX6_castleTelling 2 = .ok (.invokevirtual 252, 3) := by decide +kernel
theorem dX6_castleTelling_5 : decode cX6_castleTelling 5 = .ok (.aload_n 0, 1) := by decide +kernel
theorem dX6_castleTelling_6 : decode cX6_castleTelling 6 = .ok (.iload_n 1, 1) := by decide +kernel
theorem dX6_castleTelling_7 : decode cX6_castleTelling 7 = .ok (.invokevirtual 237, 3) := by decide +kernel
theorem dX6_castleTelling_10 : decode cX6_castleTelling 10 = .ok (.aload_n 0, 1) := by decide +kernel
theorem dX6_castleTelling_11 : decode cX6_castleTelling 11 = .ok (.iload_n 1, 1) := by decide +kernel
theorem dX6_castleTelling_12 : decode cX6_castleTelling 12 = .ok (.invokevirtual 240, 3) := by decide +kernel
theorem dX6_castleTelling_15 : decode cX6_castleTelling 15 = .ok (.iadd, 1) := by decide +kernel
theorem dX6_castleTelling_16 : decode cX6_castleTelling 16 = .ok (.ireturn, 1) := by decide +kernel
theorem dX6_lentLight_0 : decode cX6_lentLight 0 = .ok (.aload_n 0, 1) := by decide +kernel
theorem dX6_lentLight_1 : decode cX6_lentLight 1 = .ok (.iconst 4, 1) := by decide +kernel
theorem dX6_lentLight_2 : decode cX6_lentLight 2 = .ok (.invokevirtual 252, 3) := by decide +kernel
theorem dX6_lentLight_5 : decode cX6_lentLight 5 = .ok (.iload_n 1, 1) := by decide +kernel
theorem dX6_lentLight_6 : decode cX6_lentLight 6 = .ok (.ireturn, 1) := by decide +kernel
theorem dX6_castleLight_0 : decode cX6_castleLight 0 = .ok (.aload_n 0, 1) := by decide +kernel
theorem dX6_castleLight_1 : decode cX6_castleLight 1 = .ok (.iconst 5, 1) := by decide +kernel
theorem dX6_castleLight_2 : decode cX6_castleLight 2 = .ok (.invokevirtual 252, 3) := by decide +kernel
theorem dX6_castleLight_5 : decode cX6_castleLight 5 = .ok (.bipush 80, 2) := by decide +kernel
theorem dX6_castleLight_7 : decode cX6_castleLight 7 = .ok (.ireturn, 1) := by decide +kernel
theorem dX7_init_0 : decode cX7_init 0 = .ok (.aload_n 0, 1) := by decide +kernel
theorem dX7_init_1 : decode cX7_init 1 = .ok (.invokespecial 1, 3) := by decide +kernel
theorem dX7_init_4 : decode cX7_init 4 = .ok (.aload_n 0, 1) := by decide +kernel
theorem dX7_init_5 : decode cX7_init 5 = .ok (.bipush 6, 2) := by decide +kernel
theorem dX7_init_7 : decode cX7_init 7 = .ok (.newarray .int, 2) := by decide +kernel
theorem dX7_init_9 : decode cX7_init 9 = .ok (.putfield 7, 3) := by decide +kernel
theorem dX7_init_12 : decode cX7_init 12 = .ok (.aload_n 0, 1) := by decide +kernel
theorem dX7_init_13 : decode cX7_init 13 = .ok (.bipush 6, 2) := by decide +kernel
theorem dX7_init_15 : decode cX7_init 15 = .ok (.newarray .int, 2) := by decide +kernel
theorem dX7_init_17 : decode cX7_init 17 = .ok (.putfield 13, 3) := by decide +kernel
theorem dX7_init_20 : decode cX7_init 20 = .ok (.aload_n 0, 1) := by decide +kernel
theorem dX7_init_21 : decode cX7_init 21 = .ok (.bipush 8, 2) := by decide +kernel
theorem dX7_init_23 : decode cX7_init 23 = .ok (.newarray .int, 2) := by decide +kernel
theorem dX7_init_25 : decode cX7_init 25 = .ok (.putfield 16, 3) := by decide +kernel
theorem dX7_init_28 : decode cX7_init 28 = .ok (.aload_n 0, 1) := by decide +kernel
theorem dX7_init_29 : decode cX7_init 29 = .ok (.bipush 8, 2) := by decide +kernel
theorem dX7_init_31 : decode cX7_init 31 = .ok (.newarray .int, 2) := by decide +kernel
theorem dX7_init_33 : decode cX7_init 33 = .ok (.putfield 19, 3) := by decide +kernel
theorem dX7_init_36 : decode cX7_init 36 = .ok (.aload_n 0, 1) := by decide +kernel
theorem dX7_init_37 : decode cX7_init 37 = .ok (.bipush 8, 2) := by decide +kernel
theorem dX7_init_39 : decode cX7_init 39 = .ok (.newarray .int, 2) := by decide +kernel
theorem dX7_init_41 : decode cX7_init 41 = .ok (.putfield 22, 3) := by decide +kernel
theorem dX7_init_44 : decode cX7_init 44 = .ok (.aload_n 0, 1) := by decide +kernel
theorem dX7_init_45 : decode cX7_init 45 = .ok (.bipush 8, 2) := by decide +kernel
theorem dX7_init_47 : decode cX7_init 47 = .ok (.newarray .int, 2) := by decide +kernel
theorem dX7_init_49 : decode cX7_init 49 = .ok (.putfield 25, 3) := by decide +kernel
theorem dX7_init_52 : decode cX7_init 52 = .ok (.aload_n 0, 1) := by decide +kernel
theorem dX7_init_53 : decode cX7_init 53 = .ok (.bipush 6, 2) := by decide +kernel
theorem dX7_init_55 : decode cX7_init 55 = .ok (.newarray .int, 2) := by decide +kernel
theorem dX7_init_57 : decode cX7_init 57 = .ok (.putfield 28, 3) := by decide +kernel
theorem dX7_init_60 : decode cX7_init 60 = .ok (.aload_n 0, 1) := by decide +kernel
theorem dX7_init_61 : decode cX7_init 61 = .ok (.bipush 6, 2) := by decide +kernel
theorem dX7_init_63 : decode cX7_init 63 = .ok (.newarray .int, 2) := by decide +kernel
theorem dX7_init_65 : decode cX7_init 65 = .ok (.putfield 31, 3) := by decide +kernel
theorem dX7_init_68 : decode cX7_init 68 = .ok (.aload_n 0, 1) := by decide +kernel
theorem dX7_init_69 : decode cX7_init 69 = .ok (.bipush 8, 2) := by decide +kernel
theorem dX7_init_71 : decode cX7_init 71 = .ok (.newarray .int, 2) := by decide +kernel
theorem dX7_init_73 : decode cX7_init 73 = .ok (.putfield 34, 3) := by decide +kernel
theorem dX7_init_76 : decode cX7_init 76 = .ok (.aload_n 0, 1) := by decide +kernel
theorem dX7_init_77 : decode cX7_init 77 = .ok (.bipush 8, 2) := by decide +kernel
theorem dX7_init_79 : decode cX7_init 79 = .ok (.newarray .int, 2) := by decide +kernel
theorem dX7_init_81 : decode cX7_init 81 = .ok (.putfield 37, 3) := by decide +kernel
theorem dX7_init_84 : decode cX7_init 84 = .ok (.aload_n 0, 1) := by decide +kernel
theorem dX7_init_85 : decode cX7_init 85 = .ok (.bipush 8, 2) := by decide +kernel
theorem dX7_init_87 : decode cX7_init 87 = .ok (.newarray .int, 2) := by decide +kernel
end
section
theorem dX7_init_89 : decode cX7_init 89 = .ok (.putfield 40, 3) := by decide +kernel
theorem dX7_init_92 : decode cX7_init 92 = .ok (.aload_n 0, 1) := by decide +kernel
theorem dX7_init_93 : decode cX7_init 93 = .ok (.bipush 8, 2) := by decide +kernel
theorem dX7_init_95 : decode cX7_init 95 = .ok (.newarray .int, 2) := by decide +kernel
theorem dX7_init_97 : decode cX7_init 97 = .ok (.putfield 43, 3) := by decide +kernel
theorem dX7_init_100 : decode cX7_init 100 = .ok (.aload_n 0, 1) := by decide +kernel
theorem dX7_init_101 : decode cX7_init 101 = .ok (.bipush 8, 2) := by decide +kernel
theorem dX7_init_103 : decode cX7_init 103 = .ok (.newarray .int, 2) := by decide +kernel
theorem dX7_init_105 : decode cX7_init 105 = .ok (.putfield 46, 3) := by decide +kernel
theorem dX7_init_108 : decode cX7_init 108 = .ok (.aload_n 0, 1) := by decide +kernel
theorem dX7_init_109 : decode cX7_init 109 = .ok (.bipush 6, 2) := by decide +kernel
theorem dX7_init_111 : decode cX7_init 111 = .ok (.newarray .int, 2) := by decide +kernel
theorem dX7_init_113 : decode cX7_init 113 = .ok (.putfield 49, 3) := by decide +kernel
theorem dX7_init_116 : decode cX7_init 116 = .ok (.aload_n 0, 1) := by decide +kernel
theorem dX7_init_117 : decode cX7_init 117 = .ok (.bipush 8, 2) := by decide +kernel
theorem dX7_init_119 : decode cX7_init 119 = .ok (.newarray .int, 2) := by decide +kernel
theorem dX7_init_121 : decode cX7_init 121 = .ok (.putfield 52, 3) := by decide +kernel
theorem dX7_init_124 : decode cX7_init 124 = .ok (.aload_n 0, 1) := by decide +kernel
theorem dX7_init_125 : decode cX7_init 125 = .ok (.bipush 8, 2) := by decide +kernel
theorem dX7_init_127 : decode cX7_init 127 = .ok (.newarray .int, 2) := by decide +kernel
theorem dX7_init_129 : decode cX7_init 129 = .ok (.putfield 55, 3) := by decide +kernel
theorem dX7_init_132 : decode cX7_init 132 = .ok (.aload_n 0, 1) := by decide +kernel
theorem dX7_init_133 : decode cX7_init 133 = .ok (.bipush 8, 2) := by decide +kernel
theorem dX7_init_135 : decode cX7_init 135 = .ok (.newarray .int, 2) := by decide +kernel
theorem dX7_init_137 : decode cX7_init 137 = .ok (.putfield 58, 3) := by decide +kernel
theorem dX7_init_140 : decode cX7_init 140 = .ok (.aload_n 0, 1) := by decide +kernel
theorem dX7_init_141 : decode cX7_init 141 = .ok (.iconst 4, 1) := by decide +kernel
theorem dX7_init_142 : decode cX7_init 142 = .ok (.newarray .int, 2) := by decide +kernel
theorem dX7_init_144 : decode cX7_init 144 = .ok (.putfield 61, 3) := by decide +kernel
theorem dX7_init_147 : decode cX7_init 147 = .ok (.aload_n 0, 1) := by decide +kernel
theorem dX7_init_148 : decode cX7_init 148 = .ok (.iconst 4, 1) := by decide +kernel
theorem dX7_init_149 : decode cX7_init 149 = .ok (.newarray .int, 2) := by decide +kernel
theorem dX7_init_151 : decode cX7_init 151 = .ok (.putfield 64, 3) := by decide +kernel
theorem dX7_init_154 : decode cX7_init 154 = .ok (.aload_n 0, 1) := by decide +kernel
theorem dX7_init_155 : decode cX7_init 155 = .ok (.sipush 240, 3) := by decide +kernel
theorem dX7_init_158 : decode cX7_init 158 = .ok (.newarray .int, 2) := by decide +kernel
theorem dX7_init_160 : decode cX7_init 160 = .ok (.putfield 67, 3) := by decide +kernel
theorem dX7_init_163 : decode cX7_init 163 = .ok (.aload_n 0, 1) := by decide +kernel
theorem dX7_init_164 : decode cX7_init 164 = .ok (.bipush 60, 2) := by decide +kernel
theorem dX7_init_166 : decode cX7_init 166 = .ok (.newarray .int, 2) := by decide +kernel
theorem dX7_init_168 : decode cX7_init 168 = .ok (.putfield 70, 3) := by decide +kernel
theorem dX7_init_171 : decode cX7_init 171 = .ok (.iconst 0, 1) := by decide +kernel
theorem dX7_init_172 : decode cX7_init 172 = .ok (.istore_n 1, 1) := by decide +kernel
theorem dX7_init_173 : decode cX7_init 173 = .ok (.iload_n 1, 1) := by decide +kernel
theorem dX7_init_174 : decode cX7_init 174 = .ok (.iconst 4, 1) := by decide +kernel
theorem dX7_init_175 : decode cX7_init 175 = .ok (.if_icmp .ge 16, 3) := by decide +kernel
theorem dX7_init_178 : decode cX7_init 178 = .ok (.aload_n 0, 1) := by decide +kernel
theorem dX7_init_179 : decode cX7_init 179 = .ok (.getfield 61, 3) := by decide +kernel
theorem dX7_init_182 : decode cX7_init 182 = .ok (.iload_n 1, 1) := by decide +kernel
theorem dX7_init_183 : decode cX7_init 183 = .ok (.iconst (-1), 1) := by decide +kernel
theorem dX7_init_184 : decode cX7_init 184 = .ok (.iastore, 1) := by decide +kernel
theorem dX7_init_185 : decode cX7_init 185 = .ok (.iinc 1 1, 3) := by decide +kernel
theorem dX7_init_188 : decode cX7_init 188 = .ok (.goto (-15), 3) := by decide +kernel
theorem dX7_init_191 : decode cX7_init 191 = .ok (.aload_n 0, 1) := by decide +kernel
theorem dX7_init_192 : decode cX7_init 192 = .ok (.bipush (-9), 2) := by decide +kernel
theorem dX7_init_194 : decode cX7_init 194 = .ok (.putfield 73, 3) := by decide +kernel
theorem dX7_init_197 : decode cX7_init 197 = .ok (.return_, 1) := by decide +kernel
theorem dX7_in_0 : decode cX7_in 0 = .ok (.lload_n 0, 1) := by decide +kernel
theorem dX7_in_1 : decode cX7_in 1 = .ok (.lload_n 2, 1) := by decide +kernel
theorem dX7_in_2 : decode cX7_in 2 = .ok (.lcmp, 1) := by decide +kernel
theorem dX7_in_3 : decode cX7_in 3 = .ok (.ifCond .lt 14, 3) := by decide +kernel
theorem dX7_in_6 : decode cX7_in 6 = .ok (.lload_n 0, 1) := by decide +kernel
theorem dX7_in_7 : decode cX7_in 7 = .ok (.lload 4, 2) := by decide +kernel
theorem dX7_in_9 : decode cX7_in 9 = .ok (.lcmp, 1) := by decide +kernel
theorem dX7_in_10 : decode cX7_in 10 = .ok (.ifCond .gt 7, 3) := by decide +kernel
theorem dX7_in_13 : decode cX7_in 13 = .ok (.iconst 1, 1) := by decide +kernel
theorem dX7_in_14 : decode cX7_in 14 = .ok (.goto 4, 3) := by decide +kernel
theorem dX7_in_17 : decode cX7_in 17 = .ok (.iconst 0, 1) := by decide +kernel
theorem dX7_in_18 : decode cX7_in 18 = .ok (.ireturn, 1) := by decide +kernel
theorem dX7_lost_0 : decode cX7_lost 0 = .ok (.ldc2_w 77, 3) := by decide +kernel
theorem dX7_lost_3 : decode cX7_lost 3 = .ok (.lreturn, 1) := by decide +kernel
theorem dX7_share_0 : decode cX7_share 0 = .ok (.lload_n 0, 1) := by decide +kernel
theorem dX7_share_1 : decode cX7_share 1 = .ok (.lstore 5, 2) := by decide +kernel
theorem dX7_share_3 : decode cX7_share 3 = .ok (.lload_n 2, 1) := by decide +kernel
theorem dX7_share_4 : decode cX7_share 4 = .ok (.lstore 7, 2) := by decide +kernel
theorem dX7_share_6 : decode cX7_share 6 = .ok (.lload 7, 2) := by decide +kernel
theorem dX7_share_8 : decode cX7_share 8 = .ok (.lconst 0, 1) := by decide +kernel
theorem dX7_share_9 : decode cX7_share 9 = .ok (.lcmp, 1) := by decide +kernel
theorem dX7_share_10 : decode cX7_share 10 = .ok (.ifCond .eq 21, 3) := by decide +kernel
theorem dX7_share_13 : decode cX7_share 13 = .ok (.lload 5, 2) := by decide +kernel
theorem dX7_share_15 : decode cX7_share 15 = .ok (.lload 7, 2) := by decide +kernel
theorem dX7_share_17 : decode cX7_share 17 = .ok (.lrem, 1) := by decide +kernel
theorem dX7_share_18 : decode cX7_share 18 = .ok (.lstore 9, 2) := by decide +kernel
theorem dX7_share_20 : decode cX7_share 20 = .ok (.lload 7, 2) := by decide +kernel
theorem dX7_share_22 : decode cX7_share 22 = .ok (.lstore 5, 2) := by decide +kernel
theorem dX7_share_24 : decode cX7_share 24 = .ok (.lload 9, 2) := by decide +kernel
theorem dX7_share_26 : decode cX7_share 26 = .ok (.lstore 7, 2) := by decide +kernel
theorem dX7_share_28 : decode cX7_share 28 = .ok (.goto (-22), 3) := by decide +kernel
theorem dX7_share_31 : decode cX7_share 31 = .ok (.iload 4, 2) := by decide +kernel
theorem dX7_share_33 : decode cX7_share 33 = .ok (.ifCond .ne 7, 3) := by decide +kernel
theorem dX7_share_36 : decode cX7_share 36 = .ok (.lload_n 0, 1) := by decide +kernel
theorem dX7_share_37 : decode cX7_share 37 = .ok (.goto 4, 3) := by decide +kernel
theorem dX7_share_40 : decode cX7_share 40 = .ok (.lload_n 2, 1) := by decide +kernel
theorem dX7_share_41 : decode cX7_share 41 = .ok (.lload 5, 2) := by decide +kernel
theorem dX7_share_43 : decode cX7_share 43 = .ok (.ldiv, 1) := by decide +kernel
theorem dX7_share_44 : decode cX7_share 44 = .ok (.lreturn, 1) := by decide +kernel
theorem dX7_refused_0 : decode cX7_refused 0 = .ok (.aload_n 0, 1) := by decide +kernel
theorem dX7_refused_1 : decode cX7_refused 1 = .ok (.iconst 0, 1) := by decide +kernel
theorem dX7_refused_2 : decode cX7_refused 2 = .ok (.putfield 79, 3) := by decide +kernel
theorem dX7_refused_5 : decode cX7_refused 5 = .ok (.iload_n 1, 1) := by decide +kernel
theorem dX7_refused_6 : decode cX7_refused 6 = .ok (.ireturn, 1) := by decide +kernel
theorem dX7_failed_0 : decode cX7_failed 0 = .ok (.aload_n 0, 1) := by decide +kernel
theorem dX7_failed_1 : decode cX7_failed 1 = .ok (.iload_n 1, 1) := by decide +kernel
theorem dX7_failed_2 : decode cX7_failed 2 = .ok (.putfield 79, 3) := by decide +kernel
theorem dX7_failed_5 : decode cX7_failed 5 = .ok (.bipush (-10), 2) := by decide +kernel
theorem dX7_failed_7 : decode cX7_failed 7 = .ok (.iload_n 1, 1) := by decide +kernel
theorem dX7_failed_8 : decode cX7_failed 8 = .ok (.isub, 1) := by decide +kernel
theorem dX7_failed_9 : decode cX7_failed 9 = .ok (.ireturn, 1) := by decide +kernel
theorem dX7_failedLong_0 : decode cX7_failedLong 0 = .ok (.aload_n 0, 1) := by decide +kernel
theorem dX7_failedLong_1 : decode cX7_failedLong 1 = .ok (.iload_n 1, 1) := by decide +kernel
theorem dX7_failedLong_2 : decode cX7_failedLong 2 = .ok (.putfield 79, 3) := by decide +kernel
theorem dX7_failedLong_5 : decode cX7_failedLong 5 = .ok (.invokestatic 82, 3) := by decide +kernel
theorem dX7_failedLong_8 : decode cX7_failedLong 8 = .ok (.lreturn, 1) := by decide +kernel
theorem dX7_noInn_0 : decode cX7_noInn 0 = .ok (.iload_n 1, 1) := by decide +kernel
theorem dX7_noInn_1 : decode cX7_noInn 1 = .ok (.i2l, 1) := by decide +kernel
theorem dX7_noInn_2 : decode cX7_noInn 2 = .ok (.lconst 0, 1) := by decide +kernel
theorem dX7_noInn_3 : decode cX7_noInn 3 = .ok (.aload_n 0, 1) := by decide +kernel
theorem dX7_noInn_4 : decode cX7_noInn 4 = .ok (.getfield 86, 3) := by decide +kernel
theorem dX7_noInn_7 : decode cX7_noInn 7 = .ok (.i2l, 1) := by decide +kernel
theorem dX7_noInn_8 : decode cX7_noInn 8 = .ok (.lconst 1, 1) := by decide +kernel
theorem dX7_noInn_9 : decode cX7_noInn 9 = .ok (.lsub, 1) := by decide +kernel
theorem dX7_noInn_10 : decode cX7_noInn 10 = .ok (.invokestatic 89, 3) := by decide +kernel
theorem dX7_noInn_13 : decode cX7_noInn 13 = .ok (.ifCond .ne 7, 3) := by decide +kernel
theorem dX7_noInn_16 : decode cX7_noInn 16 = .ok (.iconst 1, 1) := by decide +kernel
theorem dX7_noInn_17 : decode cX7_noInn 17 = .ok (.goto 4, 3) := by decide +kernel
theorem dX7_noInn_20 : decode cX7_noInn 20 = .ok (.iconst 0, 1) := by decide +kernel
theorem dX7_noInn_21 : decode cX7_noInn 21 = .ok (.ireturn, 1) := by decide +kernel
theorem dX7_noGuest_0 : decode cX7_noGuest 0 = .ok (.iload_n 1, 1) := by decide +kernel
theorem dX7_noGuest_1 : decode cX7_noGuest 1 = .ok (.i2l, 1) := by decide +kernel
theorem dX7_noGuest_2 : decode cX7_noGuest 2 = .ok (.lconst 0, 1) := by decide +kernel
theorem dX7_noGuest_3 : decode cX7_noGuest 3 = .ok (.aload_n 0, 1) := by decide +kernel
theorem dX7_noGuest_4 : decode cX7_noGuest 4 = .ok (.getfield 93, 3) := by decide +kernel
theorem dX7_noGuest_7 : decode cX7_noGuest 7 = .ok (.i2l, 1) := by decide +kernel
theorem dX7_noGuest_8 : decode cX7_noGuest 8 = .ok (.lconst 1, 1) := by decide +kernel
theorem dX7_noGuest_9 : decode cX7_noGuest 9 = .ok (.lsub, 1) := by decide +kernel
theorem dX7_noGuest_10 : decode cX7_noGuest 10 = .ok (.invokestatic 89, 3) := by decide +kernel
theorem dX7_noGuest_13 : decode cX7_noGuest 13 = .ok (.ifCond .ne 7, 3) := by decide +kernel
theorem dX7_noGuest_16 : decode cX7_noGuest 16 = .ok (.iconst 1, 1) := by decide +kernel
theorem dX7_noGuest_17 : decode cX7_noGuest 17 = .ok (.goto 4, 3) := by decide +kernel
theorem dX7_noGuest_20 : decode cX7_noGuest 20 = .ok (.iconst 0, 1) := by decide +kernel
theorem dX7_noGuest_21 : decode cX7_noGuest 21 = .ok (.ireturn, 1) := by decide +kernel
theorem dX7_noNight_0 : decode cX7_noNight 0 = .ok (.iload_n 1, 1) := by decide +kernel
theorem dX7_noNight_1 : decode cX7_noNight 1 = .ok (.i2l, 1) := by decide +kernel
theorem dX7_noNight_2 : decode cX7_noNight 2 = .ok (.lconst 0, 1) := by decide +kernel
theorem dX7_noNight_3 : decode cX7_noNight 3 = .ok (.aload_n 0, 1) := by decide +kernel
theorem dX7_noNight_4 : decode cX7_noNight 4 = .ok (.getfield 96, 3) := by decide +kernel
theorem dX7_noNight_7 : decode cX7_noNight 7 = .ok (.i2l, 1) := by decide +kernel
theorem dX7_noNight_8 : decode cX7_noNight 8 = .ok (.lconst 1, 1) := by decide +kernel
theorem dX7_noNight_9 : decode cX7_noNight 9 = .ok (.lsub, 1) := by decide +kernel
theorem dX7_noNight_10 : decode cX7_noNight 10 = .ok (.invokestatic 89, 3) := by decide +kernel
theorem dX7_noNight_13 : decode cX7_noNight 13 = .ok (.ifCond .ne 7, 3) := by decide +kernel
theorem dX7_noNight_16 : decode cX7_noNight 16 = .ok (.iconst 1, 1) := by decide +kernel
theorem dX7_noNight_17 : decode cX7_noNight 17 = .ok (.goto 4, 3) := by decide +kernel
theorem dX7_noNight_20 : decode cX7_noNight 20 = .ok (.iconst 0, 1) := by decide +kernel
theorem dX7_noNight_21 : decode cX7_noNight 21 = .ok (.ireturn, 1) := by decide +kernel
theorem dX7_codeAt_0 : decode cX7_codeAt 0 = .ok (.aload_n 0, 1) := by decide +kernel
theorem dX7_codeAt_1 : decode cX7_codeAt 1 = .ok (.getfield 99, 3) := by decide +kernel
theorem dX7_codeAt_4 : decode cX7_codeAt 4 = .ok (.iload_n 2, 1) := by decide +kernel
theorem dX7_codeAt_5 : decode cX7_codeAt 5 = .ok (.if_icmp .ge 17, 3) := by decide +kernel
theorem dX7_codeAt_8 : decode cX7_codeAt 8 = .ok (.aload_n 0, 1) := by decide +kernel
theorem dX7_codeAt_9 : decode cX7_codeAt 9 = .ok (.getfield 67, 3) := by decide +kernel
theorem dX7_codeAt_12 : decode cX7_codeAt 12 = .ok (.iload_n 1, 1) := by decide +kernel
theorem dX7_codeAt_13 : decode cX7_codeAt 13 = .ok (.aload_n 0, 1) := by decide +kernel
theorem dX7_codeAt_14 : decode cX7_codeAt 14 = .ok (.getfield 99, 3) := by decide +kernel
theorem dX7_codeAt_17 : decode cX7_codeAt 17 = .ok (.iadd, 1) := by decide +kernel
theorem dX7_codeAt_18 : decode cX7_codeAt 18 = .ok (.iaload, 1) := by decide +kernel
theorem dX7_codeAt_19 : decode cX7_codeAt 19 = .ok (.goto 5, 3) := by decide +kernel
theorem dX7_codeAt_22 : decode cX7_codeAt 22 = .ok (.bipush (-9), 2) := by decide +kernel
theorem dX7_codeAt_24 : decode cX7_codeAt 24 = .ok (.ireturn, 1) := by decide +kernel
theorem dX7_figure_0 : decode cX7_figure 0 = .ok (.aload_n 0, 1) := by decide +kernel
theorem dX7_figure_1 : decode cX7_figure 1 = .ok (.iload_n 1, 1) := by decide +kernel
theorem dX7_figure_2 : decode cX7_figure 2 = .ok (.iload_n 2, 1) := by decide +kernel
theorem dX7_figure_3 : decode cX7_figure 3 = .ok (.invokevirtual 102, 3) := by decide +kernel
theorem dX7_figure_6 : decode cX7_figure 6 = .ok (.bipush 48, 2) := by decide +kernel
theorem dX7_figure_8 : decode cX7_figure 8 = .ok (.isub, 1) := by decide +kernel
theorem dX7_figure_9 : decode cX7_figure 9 = .ok (.istore 5, 2) := by decide +kernel
theorem dX7_figure_11 : decode cX7_figure 11 = .ok (.iload 5, 2) := by decide +kernel
theorem dX7_figure_13 : decode cX7_figure 13 = .ok (.i2l, 1) := by decide +kernel
theorem dX7_figure_14 : decode cX7_figure 14 = .ok (.iload_n 3, 1) := by decide +kernel
theorem dX7_figure_15 : decode cX7_figure 15 = .ok (.i2l, 1) := by decide +kernel
theorem dX7_figure_16 : decode cX7_figure 16 = .ok (.iload 4, 2) := by decide +kernel
theorem dX7_figure_18 : decode cX7_figure 18 = .ok (.i2l, 1) := by decide +kernel
theorem dX7_figure_19 : decode cX7_figure 19 = .ok (.invokestatic 89, 3) := by decide +kernel
theorem dX7_figure_22 : decode cX7_figure 22 = .ok (.istore 6, 2) := by decide +kernel
theorem dX7_figure_24 : decode cX7_figure 24 = .ok (.aload_n 0, 1) := by decide +kernel
theorem dX7_figure_25 : decode cX7_figure 25 = .ok (.dup, 1) := by decide +kernel
theorem dX7_figure_26 : decode cX7_figure 26 = .ok (.getfield 99, 3) := by decide +kernel
theorem dX7_figure_29 : decode cX7_figure 29 = .ok (.iload 6, 2) := by decide +kernel
theorem dX7_figure_31 : decode cX7_figure 31 = .ok (.ifCond .eq 7, 3) := by decide +kernel
theorem dX7_figure_34 : decode cX7_figure 34 = .ok (.iconst 1, 1) := by decide +kernel
theorem dX7_figure_35 : decode cX7_figure 35 = .ok (.goto 4, 3) := by decide +kernel
theorem dX7_figure_38 : decode cX7_figure 38 = .ok (.iconst 0, 1) := by decide +kernel
theorem dX7_figure_39 : decode cX7_figure 39 = .ok (.iadd, 1) := by decide +kernel
theorem dX7_figure_40 : decode cX7_figure 40 = .ok (.putfield 99, 3) := by decide +kernel
theorem dX7_figure_43 : decode cX7_figure 43 = .ok (.iload 6, 2) := by decide +kernel
theorem dX7_figure_45 : decode cX7_figure 45 = .ok (.ifCond .eq 8, 3) := by decide +kernel
theorem dX7_figure_48 : decode cX7_figure 48 = .ok (.iload 5, 2) := by decide +kernel
theorem dX7_figure_50 : decode cX7_figure 50 = .ok (.goto 5, 3) := by decide +kernel
theorem dX7_figure_53 : decode cX7_figure 53 = .ok (.bipush (-9), 2) := by decide +kernel
theorem dX7_figure_55 : decode cX7_figure 55 = .ok (.ireturn, 1) := by decide +kernel
theorem dX7_readsInn_0 : decode cX7_readsInn 0 = .ok (.aload_n 0, 1) := by decide +kernel
theorem dX7_readsInn_1 : decode cX7_readsInn 1 = .ok (.getfield 106, 3) := by decide +kernel
theorem dX7_readsInn_4 : decode cX7_readsInn 4 = .ok (.bipush 6, 2) := by decide +kernel
theorem dX7_readsInn_6 : decode cX7_readsInn 6 = .ok (.if_icmp .eq 14, 3) := by decide +kernel
theorem dX7_readsInn_9 : decode cX7_readsInn 9 = .ok (.aload_n 0, 1) := by decide +kernel
theorem dX7_readsInn_10 : decode cX7_readsInn 10 = .ok (.iload_n 1, 1) := by decide +kernel
theorem dX7_readsInn_11 : decode cX7_readsInn 11 = .ok (.iload_n 2, 1) := by decide +kernel
theorem dX7_readsInn_12 : decode cX7_readsInn 12 = .ok (.invokevirtual 102, 3) := by decide +kernel
theorem dX7_readsInn_15 : decode cX7_readsInn 15 = .ok (.bipush 44, 2) := by decide +kernel
theorem dX7_readsInn_17 : decode cX7_readsInn 17 = .ok (.if_icmp .eq 5, 3) := by decide +kernel
theorem dX7_readsInn_20 : decode cX7_readsInn 20 = .ok (.iconst 0, 1) := by decide +kernel
theorem dX7_readsInn_21 : decode cX7_readsInn 21 = .ok (.ireturn, 1) := by decide +kernel
theorem dX7_readsInn_22 : decode cX7_readsInn 22 = .ok (.aload_n 0, 1) := by decide +kernel
theorem dX7_readsInn_23 : decode cX7_readsInn 23 = .ok (.dup, 1) := by decide +kernel
theorem dX7_readsInn_24 : decode cX7_readsInn 24 = .ok (.getfield 99, 3) := by decide +kernel
theorem dX7_readsInn_27 : decode cX7_readsInn 27 = .ok (.iconst 1, 1) := by decide +kernel
theorem dX7_readsInn_28 : decode cX7_readsInn 28 = .ok (.iadd, 1) := by decide +kernel
theorem dX7_readsInn_29 : decode cX7_readsInn 29 = .ok (.putfield 99, 3) := by decide +kernel
theorem dX7_readsInn_32 : decode cX7_readsInn 32 = .ok (.aload_n 0, 1) := by decide +kernel
theorem dX7_readsInn_33 : decode cX7_readsInn 33 = .ok (.iload_n 1, 1) := by decide +kernel
theorem dX7_readsInn_34 : decode cX7_readsInn 34 = .ok (.iload_n 2, 1) := by decide +kernel
theorem dX7_readsInn_35 : decode cX7_readsInn 35 = .ok (.invokevirtual 102, 3) := by decide +kernel
theorem dX7_readsInn_38 : decode cX7_readsInn 38 = .ok (.istore_n 3, 1) := by decide +kernel
theorem dX7_readsInn_39 : decode cX7_readsInn 39 = .ok (.iload_n 3, 1) := by decide +kernel
theorem dX7_readsInn_40 : decode cX7_readsInn 40 = .ok (.bipush 110, 2) := by decide +kernel
theorem dX7_readsInn_42 : decode cX7_readsInn 42 = .ok (.if_icmp .eq 17, 3) := by decide +kernel
theorem dX7_readsInn_45 : decode cX7_readsInn 45 = .ok (.iload_n 3, 1) := by decide +kernel
theorem dX7_readsInn_46 : decode cX7_readsInn 46 = .ok (.bipush 108, 2) := by decide +kernel
theorem dX7_readsInn_48 : decode cX7_readsInn 48 = .ok (.if_icmp .eq 11, 3) := by decide +kernel
theorem dX7_readsInn_51 : decode cX7_readsInn 51 = .ok (.iload_n 3, 1) := by decide +kernel
theorem dX7_readsInn_52 : decode cX7_readsInn 52 = .ok (.bipush 99, 2) := by decide +kernel
theorem dX7_readsInn_54 : decode cX7_readsInn 54 = .ok (.if_icmp .eq 5, 3) := by decide +kernel
theorem dX7_readsInn_57 : decode cX7_readsInn 57 = .ok (.iconst 0, 1) := by decide +kernel
theorem dX7_readsInn_58 : decode cX7_readsInn 58 = .ok (.ireturn, 1) := by decide +kernel
theorem dX7_readsInn_59 : decode cX7_readsInn 59 = .ok (.aload_n 0, 1) := by decide +kernel
theorem dX7_readsInn_60 : decode cX7_readsInn 60 = .ok (.dup, 1) := by decide +kernel
theorem dX7_readsInn_61 : decode cX7_readsInn 61 = .ok (.getfield 99, 3) := by decide +kernel
theorem dX7_readsInn_64 : decode cX7_readsInn 64 = .ok (.iconst 1, 1) := by decide +kernel
theorem dX7_readsInn_65 : decode cX7_readsInn 65 = .ok (.iadd, 1) := by decide +kernel
theorem dX7_readsInn_66 : decode cX7_readsInn 66 = .ok (.putfield 99, 3) := by decide +kernel
theorem dX7_readsInn_69 : decode cX7_readsInn 69 = .ok (.aload_n 0, 1) := by decide +kernel
theorem dX7_readsInn_70 : decode cX7_readsInn 70 = .ok (.iload_n 1, 1) := by decide +kernel
theorem dX7_readsInn_71 : decode cX7_readsInn 71 = .ok (.iload_n 2, 1) := by decide +kernel
theorem dX7_readsInn_72 : decode cX7_readsInn 72 = .ok (.iconst 0, 1) := by decide +kernel
theorem dX7_readsInn_73 : decode cX7_readsInn 73 = .ok (.bipush 9, 2) := by decide +kernel
theorem dX7_readsInn_75 : decode cX7_readsInn 75 = .ok (.invokevirtual 109, 3) := by decide +kernel
theorem dX7_readsInn_78 : decode cX7_readsInn 78 = .ok (.istore 4, 2) := by decide +kernel
theorem dX7_readsInn_80 : decode cX7_readsInn 80 = .ok (.iload 4, 2) := by decide +kernel
theorem dX7_readsInn_82 : decode cX7_readsInn 82 = .ok (.ifCond .ge 5, 3) := by decide +kernel
theorem dX7_readsInn_85 : decode cX7_readsInn 85 = .ok (.iconst 0, 1) := by decide +kernel
theorem dX7_readsInn_86 : decode cX7_readsInn 86 = .ok (.ireturn, 1) := by decide +kernel
theorem dX7_readsInn_87 : decode cX7_readsInn 87 = .ok (.aload_n 0, 1) := by decide +kernel
theorem dX7_readsInn_88 : decode cX7_readsInn 88 = .ok (.getfield 28, 3) := by decide +kernel
theorem dX7_readsInn_91 : decode cX7_readsInn 91 = .ok (.aload_n 0, 1) := by decide +kernel
theorem dX7_readsInn_92 : decode cX7_readsInn 92 = .ok (.getfield 106, 3) := by decide +kernel
theorem dX7_readsInn_95 : decode cX7_readsInn 95 = .ok (.iload_n 3, 1) := by decide +kernel
theorem dX7_readsInn_96 : decode cX7_readsInn 96 = .ok (.bipush 110, 2) := by decide +kernel
theorem dX7_readsInn_98 : decode cX7_readsInn 98 = .ok (.if_icmp .ne 7, 3) := by decide +kernel
theorem dX7_readsInn_101 : decode cX7_readsInn 101 = .ok (.iconst 0, 1) := by decide +kernel
theorem dX7_readsInn_102 : decode cX7_readsInn 102 = .ok (.goto 14, 3) := by decide +kernel
theorem dX7_readsInn_105 : decode cX7_readsInn 105 = .ok (.iload_n 3, 1) := by decide +kernel
theorem dX7_readsInn_106 : decode cX7_readsInn 106 = .ok (.bipush 108, 2) := by decide +kernel
theorem dX7_readsInn_108 : decode cX7_readsInn 108 = .ok (.if_icmp .ne 7, 3) := by decide +kernel
theorem dX7_readsInn_111 : decode cX7_readsInn 111 = .ok (.iconst 1, 1) := by decide +kernel
theorem dX7_readsInn_112 : decode cX7_readsInn 112 = .ok (.goto 4, 3) := by decide +kernel
theorem dX7_readsInn_115 : decode cX7_readsInn 115 = .ok (.iconst 2, 1) := by decide +kernel
theorem dX7_readsInn_116 : decode cX7_readsInn 116 = .ok (.iastore, 1) := by decide +kernel
theorem dX7_readsInn_117 : decode cX7_readsInn 117 = .ok (.aload_n 0, 1) := by decide +kernel
theorem dX7_readsInn_118 : decode cX7_readsInn 118 = .ok (.getfield 31, 3) := by decide +kernel
theorem dX7_readsInn_121 : decode cX7_readsInn 121 = .ok (.aload_n 0, 1) := by decide +kernel
theorem dX7_readsInn_122 : decode cX7_readsInn 122 = .ok (.getfield 106, 3) := by decide +kernel
theorem dX7_readsInn_125 : decode cX7_readsInn 125 = .ok (.iload 4, 2) := by decide +kernel
theorem dX7_readsInn_127 : decode cX7_readsInn 127 = .ok (.iastore, 1) := by decide +kernel
theorem dX7_readsInn_128 : decode cX7_readsInn 128 = .ok (.aload_n 0, 1) := by decide +kernel
theorem dX7_readsInn_129 : decode cX7_readsInn 129 = .ok (.dup, 1) := by decide +kernel
theorem dX7_readsInn_130 : decode cX7_readsInn 130 = .ok (.getfield 106, 3) := by decide +kernel
theorem dX7_readsInn_133 : decode cX7_readsInn 133 = .ok (.iconst 1, 1) := by decide +kernel
theorem dX7_readsInn_134 : decode cX7_readsInn 134 = .ok (.iadd, 1) := by decide +kernel
theorem dX7_readsInn_135 : decode cX7_readsInn 135 = .ok (.putfield 106, 3) := by decide +kernel
theorem dX7_readsInn_138 : decode cX7_readsInn 138 = .ok (.iconst 1, 1) := by decide +kernel
theorem dX7_readsInn_139 : decode cX7_readsInn 139 = .ok (.ireturn, 1) := by decide +kernel
theorem dX7_readsNight_0 : decode cX7_readsNight 0 = .ok (.aload_n 0, 1) := by decide +kernel
theorem dX7_readsNight_1 : decode cX7_readsNight 1 = .ok (.iload_n 1, 1) := by decide +kernel
theorem dX7_readsNight_2 : decode cX7_readsNight 2 = .ok (.iload_n 2, 1) := by decide +kernel
theorem dX7_readsNight_3 : decode cX7_readsNight 3 = .ok (.invokevirtual 102, 3) := by decide +kernel
theorem dX7_readsNight_6 : decode cX7_readsNight 6 = .ok (.istore_n 3, 1) := by decide +kernel
theorem dX7_readsNight_7 : decode cX7_readsNight 7 = .ok (.aload_n 0, 1) := by decide +kernel
theorem dX7_readsNight_8 : decode cX7_readsNight 8 = .ok (.getfield 113, 3) := by decide +kernel
theorem dX7_readsNight_11 : decode cX7_readsNight 11 = .ok (.bipush 8, 2) := by decide +kernel
theorem dX7_readsNight_13 : decode cX7_readsNight 13 = .ok (.if_icmp .eq 15, 3) := by decide +kernel
theorem dX7_readsNight_16 : decode cX7_readsNight 16 = .ok (.iload_n 3, 1) := by decide +kernel
theorem dX7_readsNight_17 : decode cX7_readsNight 17 = .ok (.bipush 62, 2) := by decide +kernel
theorem dX7_readsNight_19 : decode cX7_readsNight 19 = .ok (.if_icmp .eq 11, 3) := by decide +kernel
theorem dX7_readsNight_22 : decode cX7_readsNight 22 = .ok (.iload_n 3, 1) := by decide +kernel
theorem dX7_readsNight_23 : decode cX7_readsNight 23 = .ok (.bipush 60, 2) := by decide +kernel
theorem dX7_readsNight_25 : decode cX7_readsNight 25 = .ok (.if_icmp .eq 5, 3) := by decide +kernel
theorem dX7_readsNight_28 : decode cX7_readsNight 28 = .ok (.iconst 0, 1) := by decide +kernel
theorem dX7_readsNight_29 : decode cX7_readsNight 29 = .ok (.ireturn, 1) := by decide +kernel
theorem dX7_readsNight_30 : decode cX7_readsNight 30 = .ok (.aload_n 0, 1) := by decide +kernel
theorem dX7_readsNight_31 : decode cX7_readsNight 31 = .ok (.dup, 1) := by decide +kernel
theorem dX7_readsNight_32 : decode cX7_readsNight 32 = .ok (.getfield 99, 3) := by decide +kernel
theorem dX7_readsNight_35 : decode cX7_readsNight 35 = .ok (.iconst 1, 1) := by decide +kernel
theorem dX7_readsNight_36 : decode cX7_readsNight 36 = .ok (.iadd, 1) := by decide +kernel
theorem dX7_readsNight_37 : decode cX7_readsNight 37 = .ok (.putfield 99, 3) := by decide +kernel
theorem dX7_readsNight_40 : decode cX7_readsNight 40 = .ok (.aload_n 0, 1) := by decide +kernel
theorem dX7_readsNight_41 : decode cX7_readsNight 41 = .ok (.iload_n 1, 1) := by decide +kernel
theorem dX7_readsNight_42 : decode cX7_readsNight 42 = .ok (.iload_n 2, 1) := by decide +kernel
theorem dX7_readsNight_43 : decode cX7_readsNight 43 = .ok (.iconst 0, 1) := by decide +kernel
theorem dX7_readsNight_44 : decode cX7_readsNight 44 = .ok (.iconst 5, 1) := by decide +kernel
theorem dX7_readsNight_45 : decode cX7_readsNight 45 = .ok (.invokevirtual 109, 3) := by decide +kernel
theorem dX7_readsNight_48 : decode cX7_readsNight 48 = .ok (.istore 4, 2) := by decide +kernel
theorem dX7_readsNight_50 : decode cX7_readsNight 50 = .ok (.iload 4, 2) := by decide +kernel
theorem dX7_readsNight_52 : decode cX7_readsNight 52 = .ok (.ifCond .ge 5, 3) := by decide +kernel
theorem dX7_readsNight_55 : decode cX7_readsNight 55 = .ok (.iconst 0, 1) := by decide +kernel
theorem dX7_readsNight_56 : decode cX7_readsNight 56 = .ok (.ireturn, 1) := by decide +kernel
theorem dX7_readsNight_57 : decode cX7_readsNight 57 = .ok (.aload_n 0, 1) := by decide +kernel
theorem dX7_readsNight_58 : decode cX7_readsNight 58 = .ok (.getfield 34, 3) := by decide +kernel
theorem dX7_readsNight_61 : decode cX7_readsNight 61 = .ok (.aload_n 0, 1) := by decide +kernel
theorem dX7_readsNight_62 : decode cX7_readsNight 62 = .ok (.getfield 113, 3) := by decide +kernel
theorem dX7_readsNight_65 : decode cX7_readsNight 65 = .ok (.iload_n 3, 1) := by decide +kernel
theorem dX7_readsNight_66 : decode cX7_readsNight 66 = .ok (.bipush 62, 2) := by decide +kernel
theorem dX7_readsNight_68 : decode cX7_readsNight 68 = .ok (.if_icmp .ne 7, 3) := by decide +kernel
theorem dX7_readsNight_71 : decode cX7_readsNight 71 = .ok (.iconst 0, 1) := by decide +kernel
theorem dX7_readsNight_72 : decode cX7_readsNight 72 = .ok (.goto 4, 3) := by decide +kernel
theorem dX7_readsNight_75 : decode cX7_readsNight 75 = .ok (.iconst 1, 1) := by decide +kernel
theorem dX7_readsNight_76 : decode cX7_readsNight 76 = .ok (.iastore, 1) := by decide +kernel
theorem dX7_readsNight_77 : decode cX7_readsNight 77 = .ok (.aload_n 0, 1) := by decide +kernel
theorem dX7_readsNight_78 : decode cX7_readsNight 78 = .ok (.getfield 37, 3) := by decide +kernel
theorem dX7_readsNight_81 : decode cX7_readsNight 81 = .ok (.aload_n 0, 1) := by decide +kernel
theorem dX7_readsNight_82 : decode cX7_readsNight 82 = .ok (.getfield 113, 3) := by decide +kernel
theorem dX7_readsNight_85 : decode cX7_readsNight 85 = .ok (.iload 4, 2) := by decide +kernel
theorem dX7_readsNight_87 : decode cX7_readsNight 87 = .ok (.iastore, 1) := by decide +kernel
theorem dX7_readsNight_88 : decode cX7_readsNight 88 = .ok (.aload_n 0, 1) := by decide +kernel
theorem dX7_readsNight_89 : decode cX7_readsNight 89 = .ok (.dup, 1) := by decide +kernel
theorem dX7_readsNight_90 : decode cX7_readsNight 90 = .ok (.getfield 113, 3) := by decide +kernel
theorem dX7_readsNight_93 : decode cX7_readsNight 93 = .ok (.iconst 1, 1) := by decide +kernel
theorem dX7_readsNight_94 : decode cX7_readsNight 94 = .ok (.iadd, 1) := by decide +kernel
theorem dX7_readsNight_95 : decode cX7_readsNight 95 = .ok (.putfield 113, 3) := by decide +kernel
theorem dX7_readsNight_98 : decode cX7_readsNight 98 = .ok (.iconst 1, 1) := by decide +kernel
theorem dX7_readsNight_99 : decode cX7_readsNight 99 = .ok (.ireturn, 1) := by decide +kernel
theorem dX7_readsGuest_0 : decode cX7_readsGuest 0 = .ok (.aload_n 0, 1) := by decide +kernel
theorem dX7_readsGuest_1 : decode cX7_readsGuest 1 = .ok (.getfield 116, 3) := by decide +kernel
theorem dX7_readsGuest_4 : decode cX7_readsGuest 4 = .ok (.bipush 8, 2) := by decide +kernel
theorem dX7_readsGuest_6 : decode cX7_readsGuest 6 = .ok (.if_icmp .eq 14, 3) := by decide +kernel
theorem dX7_readsGuest_9 : decode cX7_readsGuest 9 = .ok (.aload_n 0, 1) := by decide +kernel
theorem dX7_readsGuest_10 : decode cX7_readsGuest 10 = .ok (.iload_n 1, 1) := by decide +kernel
theorem dX7_readsGuest_11 : decode cX7_readsGuest 11 = .ok (.iload_n 2, 1) := by decide +kernel
theorem dX7_readsGuest_12 : decode cX7_readsGuest 12 = .ok (.invokevirtual 102, 3) := by decide +kernel
theorem dX7_readsGuest_15 : decode cX7_readsGuest 15 = .ok (.bipush 43, 2) := by decide +kernel
theorem dX7_readsGuest_17 : decode cX7_readsGuest 17 = .ok (.if_icmp .eq 5, 3) := by decide +kernel
theorem dX7_readsGuest_20 : decode cX7_readsGuest 20 = .ok (.iconst 0, 1) := by decide +kernel
theorem dX7_readsGuest_21 : decode cX7_readsGuest 21 = .ok (.ireturn, 1) := by decide +kernel
theorem dX7_readsGuest_22 : decode cX7_readsGuest 22 = .ok (.aload_n 0, 1) := by decide +kernel
theorem dX7_readsGuest_23 : decode cX7_readsGuest 23 = .ok (.dup, 1) := by decide +kernel
theorem dX7_readsGuest_24 : decode cX7_readsGuest 24 = .ok (.getfield 99, 3) := by decide +kernel
theorem dX7_readsGuest_27 : decode cX7_readsGuest 27 = .ok (.iconst 1, 1) := by decide +kernel
theorem dX7_readsGuest_28 : decode cX7_readsGuest 28 = .ok (.iadd, 1) := by decide +kernel
theorem dX7_readsGuest_29 : decode cX7_readsGuest 29 = .ok (.putfield 99, 3) := by decide +kernel
theorem dX7_readsGuest_32 : decode cX7_readsGuest 32 = .ok (.aload_n 0, 1) := by decide +kernel
theorem dX7_readsGuest_33 : decode cX7_readsGuest 33 = .ok (.iload_n 1, 1) := by decide +kernel
theorem dX7_readsGuest_34 : decode cX7_readsGuest 34 = .ok (.iload_n 2, 1) := by decide +kernel
theorem dX7_readsGuest_35 : decode cX7_readsGuest 35 = .ok (.iconst 0, 1) := by decide +kernel
theorem dX7_readsGuest_36 : decode cX7_readsGuest 36 = .ok (.iconst 3, 1) := by decide +kernel
theorem dX7_readsGuest_37 : decode cX7_readsGuest 37 = .ok (.invokevirtual 109, 3) := by decide +kernel
theorem dX7_readsGuest_40 : decode cX7_readsGuest 40 = .ok (.istore_n 3, 1) := by decide +kernel
theorem dX7_readsGuest_41 : decode cX7_readsGuest 41 = .ok (.iload_n 3, 1) := by decide +kernel
theorem dX7_readsGuest_42 : decode cX7_readsGuest 42 = .ok (.ifCond .ge 8, 3) := by decide +kernel
theorem dX7_readsGuest_45 : decode cX7_readsGuest 45 = .ok (.bipush (-9), 2) := by decide +kernel
theorem dX7_readsGuest_47 : decode cX7_readsGuest 47 = .ok (.goto 16, 3) := by decide +kernel
theorem dX7_readsGuest_50 : decode cX7_readsGuest 50 = .ok (.aload_n 0, 1) := by decide +kernel
theorem dX7_readsGuest_51 : decode cX7_readsGuest 51 = .ok (.iload_n 1, 1) := by decide +kernel
theorem dX7_readsGuest_52 : decode cX7_readsGuest 52 = .ok (.iload_n 2, 1) := by decide +kernel
theorem dX7_readsGuest_53 : decode cX7_readsGuest 53 = .ok (.iconst 0, 1) := by decide +kernel
theorem dX7_readsGuest_54 : decode cX7_readsGuest 54 = .ok (.aload_n 0, 1) := by decide +kernel
theorem dX7_readsGuest_55 : decode cX7_readsGuest 55 = .ok (.getfield 106, 3) := by decide +kernel
theorem dX7_readsGuest_58 : decode cX7_readsGuest 58 = .ok (.iconst 1, 1) := by decide +kernel
theorem dX7_readsGuest_59 : decode cX7_readsGuest 59 = .ok (.isub, 1) := by decide +kernel
theorem dX7_readsGuest_60 : decode cX7_readsGuest 60 = .ok (.invokevirtual 109, 3) := by decide +kernel
theorem dX7_readsGuest_63 : decode cX7_readsGuest 63 = .ok (.istore 4, 2) := by decide +kernel
theorem dX7_readsGuest_65 : decode cX7_readsGuest 65 = .ok (.iload 4, 2) := by decide +kernel
theorem dX7_readsGuest_67 : decode cX7_readsGuest 67 = .ok (.ifCond .ge 5, 3) := by decide +kernel
theorem dX7_readsGuest_70 : decode cX7_readsGuest 70 = .ok (.iconst 0, 1) := by decide +kernel
theorem dX7_readsGuest_71 : decode cX7_readsGuest 71 = .ok (.ireturn, 1) := by decide +kernel
theorem dX7_readsGuest_72 : decode cX7_readsGuest 72 = .ok (.aload_n 0, 1) := by decide +kernel
theorem dX7_readsGuest_73 : decode cX7_readsGuest 73 = .ok (.getfield 40, 3) := by decide +kernel
theorem dX7_readsGuest_76 : decode cX7_readsGuest 76 = .ok (.aload_n 0, 1) := by decide +kernel
theorem dX7_readsGuest_77 : decode cX7_readsGuest 77 = .ok (.getfield 116, 3) := by decide +kernel
theorem dX7_readsGuest_80 : decode cX7_readsGuest 80 = .ok (.iload_n 3, 1) := by decide +kernel
theorem dX7_readsGuest_81 : decode cX7_readsGuest 81 = .ok (.iastore, 1) := by decide +kernel
theorem dX7_readsGuest_82 : decode cX7_readsGuest 82 = .ok (.aload_n 0, 1) := by decide +kernel
theorem dX7_readsGuest_83 : decode cX7_readsGuest 83 = .ok (.getfield 43, 3) := by decide +kernel
theorem dX7_readsGuest_86 : decode cX7_readsGuest 86 = .ok (.aload_n 0, 1) := by decide +kernel
theorem dX7_readsGuest_87 : decode cX7_readsGuest 87 = .ok (.getfield 116, 3) := by decide +kernel
theorem dX7_readsGuest_90 : decode cX7_readsGuest 90 = .ok (.iload 4, 2) := by decide +kernel
theorem dX7_readsGuest_92 : decode cX7_readsGuest 92 = .ok (.iastore, 1) := by decide +kernel
theorem dX7_readsGuest_93 : decode cX7_readsGuest 93 = .ok (.aload_n 0, 1) := by decide +kernel
theorem dX7_readsGuest_94 : decode cX7_readsGuest 94 = .ok (.dup, 1) := by decide +kernel
theorem dX7_readsGuest_95 : decode cX7_readsGuest 95 = .ok (.getfield 116, 3) := by decide +kernel
theorem dX7_readsGuest_98 : decode cX7_readsGuest 98 = .ok (.iconst 1, 1) := by decide +kernel
theorem dX7_readsGuest_99 : decode cX7_readsGuest 99 = .ok (.iadd, 1) := by decide +kernel
theorem dX7_readsGuest_100 : decode cX7_readsGuest 100 = .ok (.putfield 116, 3) := by decide +kernel
theorem dX7_readsGuest_103 : decode cX7_readsGuest 103 = .ok (.iconst 1, 1) := by decide +kernel
theorem dX7_readsGuest_104 : decode cX7_readsGuest 104 = .ok (.ireturn, 1) := by decide +kernel
theorem dX7_readsRidge_0 : decode cX7_readsRidge 0 = .ok (.aload_n 0, 1) := by decide +kernel
theorem dX7_readsRidge_1 : decode cX7_readsRidge 1 = .ok (.iconst 0, 1) := by decide +kernel
theorem dX7_readsRidge_2 : decode cX7_readsRidge 2 = .ok (.putfield 99, 3) := by decide +kernel
theorem dX7_readsRidge_5 : decode cX7_readsRidge 5 = .ok (.aload_n 0, 1) := by decide +kernel
theorem dX7_readsRidge_6 : decode cX7_readsRidge 6 = .ok (.iconst 0, 1) := by decide +kernel
theorem dX7_readsRidge_7 : decode cX7_readsRidge 7 = .ok (.putfield 106, 3) := by decide +kernel
theorem dX7_readsRidge_10 : decode cX7_readsRidge 10 = .ok (.aload_n 0, 1) := by decide +kernel
theorem dX7_readsRidge_11 : decode cX7_readsRidge 11 = .ok (.iconst 0, 1) := by decide +kernel
theorem dX7_readsRidge_12 : decode cX7_readsRidge 12 = .ok (.putfield 113, 3) := by decide +kernel
theorem dX7_readsRidge_15 : decode cX7_readsRidge 15 = .ok (.aload_n 0, 1) := by decide +kernel
theorem dX7_readsRidge_16 : decode cX7_readsRidge 16 = .ok (.iconst 0, 1) := by decide +kernel
theorem dX7_readsRidge_17 : decode cX7_readsRidge 17 = .ok (.putfield 116, 3) := by decide +kernel
theorem dX7_readsRidge_20 : decode cX7_readsRidge 20 = .ok (.aload_n 0, 1) := by decide +kernel
theorem dX7_readsRidge_21 : decode cX7_readsRidge 21 = .ok (.iload_n 1, 1) := by decide +kernel
theorem dX7_readsRidge_22 : decode cX7_readsRidge 22 = .ok (.iload_n 2, 1) := by decide +kernel
theorem dX7_readsRidge_23 : decode cX7_readsRidge 23 = .ok (.invokevirtual 102, 3) := by decide +kernel
theorem dX7_readsRidge_26 : decode cX7_readsRidge 26 = .ok (.bipush 105, 2) := by decide +kernel
theorem dX7_readsRidge_28 : decode cX7_readsRidge 28 = .ok (.if_icmp .ne 7, 3) := by decide +kernel
theorem dX7_readsRidge_31 : decode cX7_readsRidge 31 = .ok (.iconst 1, 1) := by decide +kernel
theorem dX7_readsRidge_32 : decode cX7_readsRidge 32 = .ok (.goto 4, 3) := by decide +kernel
theorem dX7_readsRidge_35 : decode cX7_readsRidge 35 = .ok (.iconst 0, 1) := by decide +kernel
theorem dX7_readsRidge_36 : decode cX7_readsRidge 36 = .ok (.istore_n 3, 1) := by decide +kernel
theorem dX7_readsRidge_37 : decode cX7_readsRidge 37 = .ok (.aload_n 0, 1) := by decide +kernel
theorem dX7_readsRidge_38 : decode cX7_readsRidge 38 = .ok (.dup, 1) := by decide +kernel
theorem dX7_readsRidge_39 : decode cX7_readsRidge 39 = .ok (.getfield 99, 3) := by decide +kernel
theorem dX7_readsRidge_42 : decode cX7_readsRidge 42 = .ok (.iload_n 3, 1) := by decide +kernel
theorem dX7_readsRidge_43 : decode cX7_readsRidge 43 = .ok (.ifCond .eq 7, 3) := by decide +kernel
theorem dX7_readsRidge_46 : decode cX7_readsRidge 46 = .ok (.iconst 1, 1) := by decide +kernel
theorem dX7_readsRidge_47 : decode cX7_readsRidge 47 = .ok (.goto 4, 3) := by decide +kernel
theorem dX7_readsRidge_50 : decode cX7_readsRidge 50 = .ok (.iconst 0, 1) := by decide +kernel
theorem dX7_readsRidge_51 : decode cX7_readsRidge 51 = .ok (.iadd, 1) := by decide +kernel
theorem dX7_readsRidge_52 : decode cX7_readsRidge 52 = .ok (.putfield 99, 3) := by decide +kernel
theorem dX7_readsRidge_55 : decode cX7_readsRidge 55 = .ok (.iload_n 3, 1) := by decide +kernel
theorem dX7_readsRidge_56 : decode cX7_readsRidge 56 = .ok (.ifCond .eq 32, 3) := by decide +kernel
theorem dX7_readsRidge_59 : decode cX7_readsRidge 59 = .ok (.aload_n 0, 1) := by decide +kernel
theorem dX7_readsRidge_60 : decode cX7_readsRidge 60 = .ok (.getfield 106, 3) := by decide +kernel
theorem dX7_readsRidge_63 : decode cX7_readsRidge 63 = .ok (.iconst 2, 1) := by decide +kernel
theorem dX7_readsRidge_64 : decode cX7_readsRidge 64 = .ok (.if_icmp .lt 14, 3) := by decide +kernel
theorem dX7_readsRidge_67 : decode cX7_readsRidge 67 = .ok (.aload_n 0, 1) := by decide +kernel
theorem dX7_readsRidge_68 : decode cX7_readsRidge 68 = .ok (.iload_n 1, 1) := by decide +kernel
theorem dX7_readsRidge_69 : decode cX7_readsRidge 69 = .ok (.iload_n 2, 1) := by decide +kernel
theorem dX7_readsRidge_70 : decode cX7_readsRidge 70 = .ok (.invokevirtual 102, 3) := by decide +kernel
theorem dX7_readsRidge_73 : decode cX7_readsRidge 73 = .ok (.bipush 44, 2) := by decide +kernel
theorem dX7_readsRidge_75 : decode cX7_readsRidge 75 = .ok (.if_icmp .ne 13, 3) := by decide +kernel
theorem dX7_readsRidge_78 : decode cX7_readsRidge 78 = .ok (.aload_n 0, 1) := by decide +kernel
theorem dX7_readsRidge_79 : decode cX7_readsRidge 79 = .ok (.iload_n 1, 1) := by decide +kernel
theorem dX7_readsRidge_80 : decode cX7_readsRidge 80 = .ok (.iload_n 2, 1) := by decide +kernel
theorem dX7_readsRidge_81 : decode cX7_readsRidge 81 = .ok (.invokevirtual 119, 3) := by decide +kernel
theorem dX7_readsRidge_84 : decode cX7_readsRidge 84 = .ok (.istore_n 3, 1) := by decide +kernel
theorem dX7_readsRidge_85 : decode cX7_readsRidge 85 = .ok (.goto (-30), 3) := by decide +kernel
theorem dX7_readsRidge_88 : decode cX7_readsRidge 88 = .ok (.iload_n 3, 1) := by decide +kernel
theorem dX7_readsRidge_89 : decode cX7_readsRidge 89 = .ok (.ifCond .eq 18, 3) := by decide +kernel
theorem dX7_readsRidge_92 : decode cX7_readsRidge 92 = .ok (.aload_n 0, 1) := by decide +kernel
theorem dX7_readsRidge_93 : decode cX7_readsRidge 93 = .ok (.iload_n 1, 1) := by decide +kernel
theorem dX7_readsRidge_94 : decode cX7_readsRidge 94 = .ok (.iload_n 2, 1) := by decide +kernel
theorem dX7_readsRidge_95 : decode cX7_readsRidge 95 = .ok (.invokevirtual 102, 3) := by decide +kernel
theorem dX7_readsRidge_98 : decode cX7_readsRidge 98 = .ok (.bipush 59, 2) := by decide +kernel
theorem dX7_readsRidge_100 : decode cX7_readsRidge 100 = .ok (.if_icmp .ne 7, 3) := by decide +kernel
theorem dX7_readsRidge_103 : decode cX7_readsRidge 103 = .ok (.iconst 1, 1) := by decide +kernel
theorem dX7_readsRidge_104 : decode cX7_readsRidge 104 = .ok (.goto 4, 3) := by decide +kernel
theorem dX7_readsRidge_107 : decode cX7_readsRidge 107 = .ok (.iconst 0, 1) := by decide +kernel
theorem dX7_readsRidge_108 : decode cX7_readsRidge 108 = .ok (.istore_n 3, 1) := by decide +kernel
theorem dX7_readsRidge_109 : decode cX7_readsRidge 109 = .ok (.aload_n 0, 1) := by decide +kernel
theorem dX7_readsRidge_110 : decode cX7_readsRidge 110 = .ok (.dup, 1) := by decide +kernel
theorem dX7_readsRidge_111 : decode cX7_readsRidge 111 = .ok (.getfield 99, 3) := by decide +kernel
theorem dX7_readsRidge_114 : decode cX7_readsRidge 114 = .ok (.iload_n 3, 1) := by decide +kernel
theorem dX7_readsRidge_115 : decode cX7_readsRidge 115 = .ok (.ifCond .eq 7, 3) := by decide +kernel
theorem dX7_readsRidge_118 : decode cX7_readsRidge 118 = .ok (.iconst 1, 1) := by decide +kernel
theorem dX7_readsRidge_119 : decode cX7_readsRidge 119 = .ok (.goto 4, 3) := by decide +kernel
theorem dX7_readsRidge_122 : decode cX7_readsRidge 122 = .ok (.iconst 0, 1) := by decide +kernel
theorem dX7_readsRidge_123 : decode cX7_readsRidge 123 = .ok (.iadd, 1) := by decide +kernel
theorem dX7_readsRidge_124 : decode cX7_readsRidge 124 = .ok (.putfield 99, 3) := by decide +kernel
theorem dX7_readsRidge_127 : decode cX7_readsRidge 127 = .ok (.iload_n 3, 1) := by decide +kernel
theorem dX7_readsRidge_128 : decode cX7_readsRidge 128 = .ok (.ifCond .eq 42, 3) := by decide +kernel
theorem dX7_readsRidge_131 : decode cX7_readsRidge 131 = .ok (.aload_n 0, 1) := by decide +kernel
theorem dX7_readsRidge_132 : decode cX7_readsRidge 132 = .ok (.getfield 113, 3) := by decide +kernel
theorem dX7_readsRidge_135 : decode cX7_readsRidge 135 = .ok (.ifCond .eq 25, 3) := by decide +kernel
theorem dX7_readsRidge_138 : decode cX7_readsRidge 138 = .ok (.aload_n 0, 1) := by decide +kernel
theorem dX7_readsRidge_139 : decode cX7_readsRidge 139 = .ok (.iload_n 1, 1) := by decide +kernel
theorem dX7_readsRidge_140 : decode cX7_readsRidge 140 = .ok (.iload_n 2, 1) := by decide +kernel
theorem dX7_readsRidge_141 : decode cX7_readsRidge 141 = .ok (.invokevirtual 102, 3) := by decide +kernel
theorem dX7_readsRidge_144 : decode cX7_readsRidge 144 = .ok (.bipush 62, 2) := by decide +kernel
theorem dX7_readsRidge_146 : decode cX7_readsRidge 146 = .ok (.if_icmp .eq 14, 3) := by decide +kernel
theorem dX7_readsRidge_149 : decode cX7_readsRidge 149 = .ok (.aload_n 0, 1) := by decide +kernel
theorem dX7_readsRidge_150 : decode cX7_readsRidge 150 = .ok (.iload_n 1, 1) := by decide +kernel
theorem dX7_readsRidge_151 : decode cX7_readsRidge 151 = .ok (.iload_n 2, 1) := by decide +kernel
theorem dX7_readsRidge_152 : decode cX7_readsRidge 152 = .ok (.invokevirtual 102, 3) := by decide +kernel
theorem dX7_readsRidge_155 : decode cX7_readsRidge 155 = .ok (.bipush 60, 2) := by decide +kernel
theorem dX7_readsRidge_157 : decode cX7_readsRidge 157 = .ok (.if_icmp .ne 13, 3) := by decide +kernel
theorem dX7_readsRidge_160 : decode cX7_readsRidge 160 = .ok (.aload_n 0, 1) := by decide +kernel
theorem dX7_readsRidge_161 : decode cX7_readsRidge 161 = .ok (.iload_n 1, 1) := by decide +kernel
theorem dX7_readsRidge_162 : decode cX7_readsRidge 162 = .ok (.iload_n 2, 1) := by decide +kernel
theorem dX7_readsRidge_163 : decode cX7_readsRidge 163 = .ok (.invokevirtual 123, 3) := by decide +kernel
theorem dX7_readsRidge_166 : decode cX7_readsRidge 166 = .ok (.istore_n 3, 1) := by decide +kernel
theorem dX7_readsRidge_167 : decode cX7_readsRidge 167 = .ok (.goto (-40), 3) := by decide +kernel
theorem dX7_readsRidge_170 : decode cX7_readsRidge 170 = .ok (.iload_n 3, 1) := by decide +kernel
theorem dX7_readsRidge_171 : decode cX7_readsRidge 171 = .ok (.ifCond .eq 28, 3) := by decide +kernel
theorem dX7_readsRidge_174 : decode cX7_readsRidge 174 = .ok (.aload_n 0, 1) := by decide +kernel
theorem dX7_readsRidge_175 : decode cX7_readsRidge 175 = .ok (.getfield 116, 3) := by decide +kernel
theorem dX7_readsRidge_178 : decode cX7_readsRidge 178 = .ok (.ifCond .eq 11, 3) := by decide +kernel
theorem dX7_readsRidge_181 : decode cX7_readsRidge 181 = .ok (.aload_n 0, 1) := by decide +kernel
theorem dX7_readsRidge_182 : decode cX7_readsRidge 182 = .ok (.getfield 99, 3) := by decide +kernel
theorem dX7_readsRidge_185 : decode cX7_readsRidge 185 = .ok (.iload_n 2, 1) := by decide +kernel
theorem dX7_readsRidge_186 : decode cX7_readsRidge 186 = .ok (.if_icmp .ge 13, 3) := by decide +kernel
theorem dX7_readsRidge_189 : decode cX7_readsRidge 189 = .ok (.aload_n 0, 1) := by decide +kernel
theorem dX7_readsRidge_190 : decode cX7_readsRidge 190 = .ok (.iload_n 1, 1) := by decide +kernel
theorem dX7_readsRidge_191 : decode cX7_readsRidge 191 = .ok (.iload_n 2, 1) := by decide +kernel
theorem dX7_readsRidge_192 : decode cX7_readsRidge 192 = .ok (.invokevirtual 126, 3) := by decide +kernel
theorem dX7_readsRidge_195 : decode cX7_readsRidge 195 = .ok (.istore_n 3, 1) := by decide +kernel
theorem dX7_readsRidge_196 : decode cX7_readsRidge 196 = .ok (.goto (-26), 3) := by decide +kernel
theorem dX7_readsRidge_199 : decode cX7_readsRidge 199 = .ok (.iload_n 3, 1) := by decide +kernel
theorem dX7_readsRidge_200 : decode cX7_readsRidge 200 = .ok (.ireturn, 1) := by decide +kernel
theorem dX7_cellsBarred_0 : decode cX7_cellsBarred 0 = .ok (.aload_n 0, 1) := by decide +kernel
theorem dX7_cellsBarred_1 : decode cX7_cellsBarred 1 = .ok (.getfield 61, 3) := by decide +kernel
theorem dX7_cellsBarred_4 : decode cX7_cellsBarred 4 = .ok (.iload_n 1, 1) := by decide +kernel
theorem dX7_cellsBarred_5 : decode cX7_cellsBarred 5 = .ok (.iaload, 1) := by decide +kernel
theorem dX7_cellsBarred_6 : decode cX7_cellsBarred 6 = .ok (.ifCond .lt 19, 3) := by decide +kernel
theorem dX7_cellsBarred_9 : decode cX7_cellsBarred 9 = .ok (.aload_n 0, 1) := by decide +kernel
theorem dX7_cellsBarred_10 : decode cX7_cellsBarred 10 = .ok (.getfield 64, 3) := by decide +kernel
theorem dX7_cellsBarred_13 : decode cX7_cellsBarred 13 = .ok (.iload_n 1, 1) := by decide +kernel
theorem dX7_cellsBarred_14 : decode cX7_cellsBarred 14 = .ok (.iaload, 1) := by decide +kernel
theorem dX7_cellsBarred_15 : decode cX7_cellsBarred 15 = .ok (.iload_n 2, 1) := by decide +kernel
theorem dX7_cellsBarred_16 : decode cX7_cellsBarred 16 = .ok (.if_icmp .eq 9, 3) := by decide +kernel
theorem dX7_cellsBarred_19 : decode cX7_cellsBarred 19 = .ok (.aload_n 0, 1) := by decide +kernel
theorem dX7_cellsBarred_20 : decode cX7_cellsBarred 20 = .ok (.iconst 2, 1) := by decide +kernel
theorem dX7_cellsBarred_21 : decode cX7_cellsBarred 21 = .ok (.invokevirtual 129, 3) := by decide +kernel
theorem dX7_cellsBarred_24 : decode cX7_cellsBarred 24 = .ok (.ireturn, 1) := by decide +kernel
theorem dX7_cellsBarred_25 : decode cX7_cellsBarred 25 = .ok (.aload_n 0, 1) := by decide +kernel
theorem dX7_cellsBarred_26 : decode cX7_cellsBarred 26 = .ok (.getfield 61, 3) := by decide +kernel
theorem dX7_cellsBarred_29 : decode cX7_cellsBarred 29 = .ok (.iload_n 1, 1) := by decide +kernel
theorem dX7_cellsBarred_30 : decode cX7_cellsBarred 30 = .ok (.iaload, 1) := by decide +kernel
theorem dX7_cellsBarred_31 : decode cX7_cellsBarred 31 = .ok (.ifCond .ge 9, 3) := by decide +kernel
theorem dX7_cellsBarred_34 : decode cX7_cellsBarred 34 = .ok (.aload_n 0, 1) := by decide +kernel
theorem dX7_cellsBarred_35 : decode cX7_cellsBarred 35 = .ok (.iconst 1, 1) := by decide +kernel
theorem dX7_cellsBarred_36 : decode cX7_cellsBarred 36 = .ok (.invokevirtual 129, 3) := by decide +kernel
theorem dX7_cellsBarred_39 : decode cX7_cellsBarred 39 = .ok (.ireturn, 1) := by decide +kernel
theorem dX7_cellsBarred_40 : decode cX7_cellsBarred 40 = .ok (.lload 4, 2) := by decide +kernel
theorem dX7_cellsBarred_42 : decode cX7_cellsBarred 42 = .ok (.lconst 0, 1) := by decide +kernel
theorem dX7_cellsBarred_43 : decode cX7_cellsBarred 43 = .ok (.lcmp, 1) := by decide +kernel
theorem dX7_cellsBarred_44 : decode cX7_cellsBarred 44 = .ok (.ifCond .ge 9, 3) := by decide +kernel
theorem dX7_cellsBarred_47 : decode cX7_cellsBarred 47 = .ok (.aload_n 0, 1) := by decide +kernel
theorem dX7_cellsBarred_48 : decode cX7_cellsBarred 48 = .ok (.iconst 4, 1) := by decide +kernel
theorem dX7_cellsBarred_49 : decode cX7_cellsBarred 49 = .ok (.invokevirtual 129, 3) := by decide +kernel
theorem dX7_cellsBarred_52 : decode cX7_cellsBarred 52 = .ok (.ireturn, 1) := by decide +kernel
theorem dX7_cellsBarred_53 : decode cX7_cellsBarred 53 = .ok (.iload_n 3, 1) := by decide +kernel
theorem dX7_cellsBarred_54 : decode cX7_cellsBarred 54 = .ok (.lload 4, 2) := by decide +kernel
theorem dX7_cellsBarred_56 : decode cX7_cellsBarred 56 = .ok (.aload_n 0, 1) := by decide +kernel
theorem dX7_cellsBarred_57 : decode cX7_cellsBarred 57 = .ok (.getfield 61, 3) := by decide +kernel
theorem dX7_cellsBarred_60 : decode cX7_cellsBarred 60 = .ok (.iload_n 1, 1) := by decide +kernel
theorem dX7_cellsBarred_61 : decode cX7_cellsBarred 61 = .ok (.iaload, 1) := by decide +kernel
theorem dX7_cellsBarred_62 : decode cX7_cellsBarred 62 = .ok (.invokestatic 133, 3) := by decide +kernel
theorem dX7_cellsBarred_65 : decode cX7_cellsBarred 65 = .ok (.ifCond .eq 11, 3) := by decide +kernel
theorem dX7_cellsBarred_68 : decode cX7_cellsBarred 68 = .ok (.aload_n 0, 1) := by decide +kernel
theorem dX7_cellsBarred_69 : decode cX7_cellsBarred 69 = .ok (.iconst 3, 1) := by decide +kernel
theorem dX7_cellsBarred_70 : decode cX7_cellsBarred 70 = .ok (.invokevirtual 129, 3) := by decide +kernel
theorem dX7_cellsBarred_73 : decode cX7_cellsBarred 73 = .ok (.goto 4, 3) := by decide +kernel
theorem dX7_cellsBarred_76 : decode cX7_cellsBarred 76 = .ok (.iconst 0, 1) := by decide +kernel
theorem dX7_cellsBarred_77 : decode cX7_cellsBarred 77 = .ok (.ireturn, 1) := by decide +kernel
theorem dX7_ridge_0 : decode cX7_ridge 0 = .ok (.iload_n 1, 1) := by decide +kernel
theorem dX7_ridge_1 : decode cX7_ridge 1 = .ok (.invokestatic 137, 3) := by decide +kernel
theorem dX7_ridge_4 : decode cX7_ridge 4 = .ok (.ifCond .eq 9, 3) := by decide +kernel
theorem dX7_ridge_7 : decode cX7_ridge 7 = .ok (.aload_n 0, 1) := by decide +kernel
theorem dX7_ridge_8 : decode cX7_ridge 8 = .ok (.iconst (-1), 1) := by decide +kernel
theorem dX7_ridge_9 : decode cX7_ridge 9 = .ok (.invokevirtual 141, 3) := by decide +kernel
theorem dX7_ridge_12 : decode cX7_ridge 12 = .ok (.ireturn, 1) := by decide +kernel
theorem dX7_ridge_13 : decode cX7_ridge 13 = .ok (.iload_n 2, 1) := by decide +kernel
theorem dX7_ridge_14 : decode cX7_ridge 14 = .ok (.i2l, 1) := by decide +kernel
theorem dX7_ridge_15 : decode cX7_ridge 15 = .ok (.lconst 0, 1) := by decide +kernel
theorem dX7_ridge_16 : decode cX7_ridge 16 = .ok (.ldc2_w 144, 3) := by decide +kernel
theorem dX7_ridge_19 : decode cX7_ridge 19 = .ok (.invokestatic 89, 3) := by decide +kernel
theorem dX7_ridge_22 : decode cX7_ridge 22 = .ok (.ifCond .ne 10, 3) := by decide +kernel
theorem dX7_ridge_25 : decode cX7_ridge 25 = .ok (.aload_n 0, 1) := by decide +kernel
theorem dX7_ridge_26 : decode cX7_ridge 26 = .ok (.bipush (-2), 2) := by decide +kernel
theorem dX7_ridge_28 : decode cX7_ridge 28 = .ok (.invokevirtual 141, 3) := by decide +kernel
theorem dX7_ridge_31 : decode cX7_ridge 31 = .ok (.ireturn, 1) := by decide +kernel
theorem dX7_ridge_32 : decode cX7_ridge 32 = .ok (.aload_n 0, 1) := by decide +kernel
theorem dX7_ridge_33 : decode cX7_ridge 33 = .ok (.iload_n 1, 1) := by decide +kernel
theorem dX7_ridge_34 : decode cX7_ridge 34 = .ok (.iload_n 2, 1) := by decide +kernel
theorem dX7_ridge_35 : decode cX7_ridge 35 = .ok (.iload_n 3, 1) := by decide +kernel
theorem dX7_ridge_36 : decode cX7_ridge 36 = .ok (.iload 4, 2) := by decide +kernel
theorem dX7_ridge_38 : decode cX7_ridge 38 = .ok (.i2l, 1) := by decide +kernel
theorem dX7_ridge_39 : decode cX7_ridge 39 = .ok (.invokevirtual 146, 3) := by decide +kernel
theorem dX7_ridge_42 : decode cX7_ridge 42 = .ok (.istore 5, 2) := by decide +kernel
theorem dX7_ridge_44 : decode cX7_ridge 44 = .ok (.iload 5, 2) := by decide +kernel
theorem dX7_ridge_46 : decode cX7_ridge 46 = .ok (.ifCond .ge 6, 3) := by decide +kernel
theorem dX7_ridge_49 : decode cX7_ridge 49 = .ok (.iload 5, 2) := by decide +kernel
theorem dX7_ridge_51 : decode cX7_ridge 51 = .ok (.ireturn, 1) := by decide +kernel
theorem dX7_ridge_52 : decode cX7_ridge 52 = .ok (.aload_n 0, 1) := by decide +kernel
theorem dX7_ridge_53 : decode cX7_ridge 53 = .ok (.bipush 60, 2) := by decide +kernel
theorem dX7_ridge_55 : decode cX7_ridge 55 = .ok (.iload_n 1, 1) := by decide +kernel
theorem dX7_ridge_56 : decode cX7_ridge 56 = .ok (.imul, 1) := by decide +kernel
theorem dX7_ridge_57 : decode cX7_ridge 57 = .ok (.iload_n 3, 1) := by decide +kernel
theorem dX7_ridge_58 : decode cX7_ridge 58 = .ok (.iadd, 1) := by decide +kernel
theorem dX7_ridge_59 : decode cX7_ridge 59 = .ok (.iload 4, 2) := by decide +kernel
theorem dX7_ridge_61 : decode cX7_ridge 61 = .ok (.invokevirtual 150, 3) := by decide +kernel
theorem dX7_ridge_64 : decode cX7_ridge 64 = .ok (.ifCond .ne 15, 3) := by decide +kernel
theorem dX7_ridge_67 : decode cX7_ridge 67 = .ok (.aload_n 0, 1) := by decide +kernel
theorem dX7_ridge_68 : decode cX7_ridge 68 = .ok (.bipush (-100), 2) := by decide +kernel
theorem dX7_ridge_70 : decode cX7_ridge 70 = .ok (.aload_n 0, 1) := by decide +kernel
theorem dX7_ridge_71 : decode cX7_ridge 71 = .ok (.getfield 99, 3) := by decide +kernel
theorem dX7_ridge_74 : decode cX7_ridge 74 = .ok (.isub, 1) := by decide +kernel
theorem dX7_ridge_75 : decode cX7_ridge 75 = .ok (.invokevirtual 141, 3) := by decide +kernel
theorem dX7_ridge_78 : decode cX7_ridge 78 = .ok (.ireturn, 1) := by decide +kernel
theorem dX7_ridge_79 : decode cX7_ridge 79 = .ok (.aload_n 0, 1) := by decide +kernel
theorem dX7_ridge_80 : decode cX7_ridge 80 = .ok (.aload_n 0, 1) := by decide +kernel
theorem dX7_ridge_81 : decode cX7_ridge 81 = .ok (.getfield 106, 3) := by decide +kernel
theorem dX7_ridge_84 : decode cX7_ridge 84 = .ok (.putfield 86, 3) := by decide +kernel
theorem dX7_ridge_87 : decode cX7_ridge 87 = .ok (.aload_n 0, 1) := by decide +kernel
theorem dX7_ridge_88 : decode cX7_ridge 88 = .ok (.aload_n 0, 1) := by decide +kernel
theorem dX7_ridge_89 : decode cX7_ridge 89 = .ok (.getfield 113, 3) := by decide +kernel
theorem dX7_ridge_92 : decode cX7_ridge 92 = .ok (.putfield 96, 3) := by decide +kernel
theorem dX7_ridge_95 : decode cX7_ridge 95 = .ok (.aload_n 0, 1) := by decide +kernel
theorem dX7_ridge_96 : decode cX7_ridge 96 = .ok (.aload_n 0, 1) := by decide +kernel
theorem dX7_ridge_97 : decode cX7_ridge 97 = .ok (.getfield 116, 3) := by decide +kernel
theorem dX7_ridge_100 : decode cX7_ridge 100 = .ok (.putfield 93, 3) := by decide +kernel
theorem dX7_ridge_103 : decode cX7_ridge 103 = .ok (.iconst 0, 1) := by decide +kernel
theorem dX7_ridge_104 : decode cX7_ridge 104 = .ok (.istore 6, 2) := by decide +kernel
theorem dX7_ridge_106 : decode cX7_ridge 106 = .ok (.iload 6, 2) := by decide +kernel
theorem dX7_ridge_108 : decode cX7_ridge 108 = .ok (.bipush 8, 2) := by decide +kernel
theorem dX7_ridge_110 : decode cX7_ridge 110 = .ok (.if_icmp .ge 65, 3) := by decide +kernel
theorem dX7_ridge_113 : decode cX7_ridge 113 = .ok (.aload_n 0, 1) := by decide +kernel
theorem dX7_ridge_114 : decode cX7_ridge 114 = .ok (.getfield 16, 3) := by decide +kernel
theorem dX7_ridge_117 : decode cX7_ridge 117 = .ok (.iload 6, 2) := by decide +kernel
theorem dX7_ridge_119 : decode cX7_ridge 119 = .ok (.aload_n 0, 1) := by decide +kernel
theorem dX7_ridge_120 : decode cX7_ridge 120 = .ok (.getfield 34, 3) := by decide +kernel
theorem dX7_ridge_123 : decode cX7_ridge 123 = .ok (.iload 6, 2) := by decide +kernel
theorem dX7_ridge_125 : decode cX7_ridge 125 = .ok (.iaload, 1) := by decide +kernel
theorem dX7_ridge_126 : decode cX7_ridge 126 = .ok (.iastore, 1) := by decide +kernel
theorem dX7_ridge_127 : decode cX7_ridge 127 = .ok (.aload_n 0, 1) := by decide +kernel
theorem dX7_ridge_128 : decode cX7_ridge 128 = .ok (.getfield 19, 3) := by decide +kernel
theorem dX7_ridge_131 : decode cX7_ridge 131 = .ok (.iload 6, 2) := by decide +kernel
theorem dX7_ridge_133 : decode cX7_ridge 133 = .ok (.aload_n 0, 1) := by decide +kernel
theorem dX7_ridge_134 : decode cX7_ridge 134 = .ok (.getfield 37, 3) := by decide +kernel
theorem dX7_ridge_137 : decode cX7_ridge 137 = .ok (.iload 6, 2) := by decide +kernel
theorem dX7_ridge_139 : decode cX7_ridge 139 = .ok (.iaload, 1) := by decide +kernel
theorem dX7_ridge_140 : decode cX7_ridge 140 = .ok (.iastore, 1) := by decide +kernel
theorem dX7_ridge_141 : decode cX7_ridge 141 = .ok (.aload_n 0, 1) := by decide +kernel
theorem dX7_ridge_142 : decode cX7_ridge 142 = .ok (.getfield 22, 3) := by decide +kernel
theorem dX7_ridge_145 : decode cX7_ridge 145 = .ok (.iload 6, 2) := by decide +kernel
theorem dX7_ridge_147 : decode cX7_ridge 147 = .ok (.aload_n 0, 1) := by decide +kernel
theorem dX7_ridge_148 : decode cX7_ridge 148 = .ok (.getfield 40, 3) := by decide +kernel
theorem dX7_ridge_151 : decode cX7_ridge 151 = .ok (.iload 6, 2) := by decide +kernel
theorem dX7_ridge_153 : decode cX7_ridge 153 = .ok (.iaload, 1) := by decide +kernel
theorem dX7_ridge_154 : decode cX7_ridge 154 = .ok (.iastore, 1) := by decide +kernel
theorem dX7_ridge_155 : decode cX7_ridge 155 = .ok (.aload_n 0, 1) := by decide +kernel
theorem dX7_ridge_156 : decode cX7_ridge 156 = .ok (.getfield 25, 3) := by decide +kernel
theorem dX7_ridge_159 : decode cX7_ridge 159 = .ok (.iload 6, 2) := by decide +kernel
theorem dX7_ridge_161 : decode cX7_ridge 161 = .ok (.aload_n 0, 1) := by decide +kernel
theorem dX7_ridge_162 : decode cX7_ridge 162 = .ok (.getfield 43, 3) := by decide +kernel
theorem dX7_ridge_165 : decode cX7_ridge 165 = .ok (.iload 6, 2) := by decide +kernel
theorem dX7_ridge_167 : decode cX7_ridge 167 = .ok (.iaload, 1) := by decide +kernel
theorem dX7_ridge_168 : decode cX7_ridge 168 = .ok (.iastore, 1) := by decide +kernel
theorem dX7_ridge_169 : decode cX7_ridge 169 = .ok (.iinc 6 1, 3) := by decide +kernel
theorem dX7_ridge_172 : decode cX7_ridge 172 = .ok (.goto (-66), 3) := by decide +kernel
theorem dX7_ridge_175 : decode cX7_ridge 175 = .ok (.iconst 0, 1) := by decide +kernel
theorem dX7_ridge_176 : decode cX7_ridge 176 = .ok (.istore 6, 2) := by decide +kernel
theorem dX7_ridge_178 : decode cX7_ridge 178 = .ok (.iload 6, 2) := by decide +kernel
theorem dX7_ridge_180 : decode cX7_ridge 180 = .ok (.aload_n 0, 1) := by decide +kernel
theorem dX7_ridge_181 : decode cX7_ridge 181 = .ok (.getfield 86, 3) := by decide +kernel
theorem dX7_ridge_184 : decode cX7_ridge 184 = .ok (.if_icmp .ge 37, 3) := by decide +kernel
theorem dX7_ridge_187 : decode cX7_ridge 187 = .ok (.aload_n 0, 1) := by decide +kernel
theorem dX7_ridge_188 : decode cX7_ridge 188 = .ok (.getfield 7, 3) := by decide +kernel
theorem dX7_ridge_191 : decode cX7_ridge 191 = .ok (.iload 6, 2) := by decide +kernel
theorem dX7_ridge_193 : decode cX7_ridge 193 = .ok (.aload_n 0, 1) := by decide +kernel
theorem dX7_ridge_194 : decode cX7_ridge 194 = .ok (.getfield 28, 3) := by decide +kernel
theorem dX7_ridge_197 : decode cX7_ridge 197 = .ok (.iload 6, 2) := by decide +kernel
theorem dX7_ridge_199 : decode cX7_ridge 199 = .ok (.iaload, 1) := by decide +kernel
theorem dX7_ridge_200 : decode cX7_ridge 200 = .ok (.iastore, 1) := by decide +kernel
theorem dX7_ridge_201 : decode cX7_ridge 201 = .ok (.aload_n 0, 1) := by decide +kernel
theorem dX7_ridge_202 : decode cX7_ridge 202 = .ok (.getfield 13, 3) := by decide +kernel
theorem dX7_ridge_205 : decode cX7_ridge 205 = .ok (.iload 6, 2) := by decide +kernel
theorem dX7_ridge_207 : decode cX7_ridge 207 = .ok (.aload_n 0, 1) := by decide +kernel
theorem dX7_ridge_208 : decode cX7_ridge 208 = .ok (.getfield 31, 3) := by decide +kernel
theorem dX7_ridge_211 : decode cX7_ridge 211 = .ok (.iload 6, 2) := by decide +kernel
theorem dX7_ridge_213 : decode cX7_ridge 213 = .ok (.iaload, 1) := by decide +kernel
theorem dX7_ridge_214 : decode cX7_ridge 214 = .ok (.iastore, 1) := by decide +kernel
theorem dX7_ridge_215 : decode cX7_ridge 215 = .ok (.iinc 6 1, 3) := by decide +kernel
theorem dX7_ridge_218 : decode cX7_ridge 218 = .ok (.goto (-40), 3) := by decide +kernel
theorem dX7_ridge_221 : decode cX7_ridge 221 = .ok (.aload_n 0, 1) := by decide +kernel
theorem dX7_ridge_222 : decode cX7_ridge 222 = .ok (.iconst 0, 1) := by decide +kernel
theorem dX7_ridge_223 : decode cX7_ridge 223 = .ok (.putfield 153, 3) := by decide +kernel
theorem dX7_ridge_226 : decode cX7_ridge 226 = .ok (.aload_n 0, 1) := by decide +kernel
theorem dX7_ridge_227 : decode cX7_ridge 227 = .ok (.iconst 0, 1) := by decide +kernel
theorem dX7_ridge_228 : decode cX7_ridge 228 = .ok (.putfield 156, 3) := by decide +kernel
theorem dX7_ridge_231 : decode cX7_ridge 231 = .ok (.aload_n 0, 1) := by decide +kernel
theorem dX7_ridge_232 : decode cX7_ridge 232 = .ok (.aload_n 0, 1) := by decide +kernel
theorem dX7_ridge_233 : decode cX7_ridge 233 = .ok (.getfield 93, 3) := by decide +kernel
theorem dX7_ridge_236 : decode cX7_ridge 236 = .ok (.invokevirtual 141, 3) := by decide +kernel
theorem dX7_ridge_239 : decode cX7_ridge 239 = .ok (.ireturn, 1) := by decide +kernel
theorem dX7_keepsBy_0 : decode cX7_keepsBy 0 = .ok (.aload_n 0, 1) := by decide +kernel
theorem dX7_keepsBy_1 : decode cX7_keepsBy 1 = .ok (.getfield 7, 3) := by decide +kernel
theorem dX7_keepsBy_4 : decode cX7_keepsBy 4 = .ok (.iload_n 1, 1) := by decide +kernel
theorem dX7_keepsBy_5 : decode cX7_keepsBy 5 = .ok (.iaload, 1) := by decide +kernel
theorem dX7_keepsBy_6 : decode cX7_keepsBy 6 = .ok (.ifCond .ne 7, 3) := by decide +kernel
theorem dX7_keepsBy_9 : decode cX7_keepsBy 9 = .ok (.iload_n 2, 1) := by decide +kernel
theorem dX7_keepsBy_10 : decode cX7_keepsBy 10 = .ok (.goto 24, 3) := by decide +kernel
theorem dX7_keepsBy_13 : decode cX7_keepsBy 13 = .ok (.aload_n 0, 1) := by decide +kernel
end
section
theorem dX7_keepsBy_14 : decode cX7_keepsBy 14 = .ok (.getfield 7, 3) := by decide +kernel
theorem dX7_keepsBy_17 : decode cX7_keepsBy 17 = .ok (.iload_n 1, 1) := by decide +kernel
theorem dX7_keepsBy_18 : decode cX7_keepsBy 18 = .ok (.iaload, 1) := by decide +kernel
theorem dX7_keepsBy_19 : decode cX7_keepsBy 19 = .ok (.iconst 1, 1) := by decide +kernel
theorem dX7_keepsBy_20 : decode cX7_keepsBy 20 = .ok (.if_icmp .ne 9, 3) := by decide +kernel
theorem dX7_keepsBy_23 : decode cX7_keepsBy 23 = .ok (.iload_n 2, 1) := by decide +kernel
theorem dX7_keepsBy_24 : decode cX7_keepsBy 24 = .ok (.iconst 1, 1) := by decide +kernel
theorem dX7_keepsBy_25 : decode cX7_keepsBy 25 = .ok (.iadd, 1) := by decide +kernel
theorem dX7_keepsBy_26 : decode cX7_keepsBy 26 = .ok (.goto 8, 3) := by decide +kernel
theorem dX7_keepsBy_29 : decode cX7_keepsBy 29 = .ok (.iconst 2, 1) := by decide +kernel
theorem dX7_keepsBy_30 : decode cX7_keepsBy 30 = .ok (.iload_n 2, 1) := by decide +kernel
theorem dX7_keepsBy_31 : decode cX7_keepsBy 31 = .ok (.iconst 1, 1) := by decide +kernel
theorem dX7_keepsBy_32 : decode cX7_keepsBy 32 = .ok (.iadd, 1) := by decide +kernel
theorem dX7_keepsBy_33 : decode cX7_keepsBy 33 = .ok (.imul, 1) := by decide +kernel
theorem dX7_keepsBy_34 : decode cX7_keepsBy 34 = .ok (.istore_n 3, 1) := by decide +kernel
theorem dX7_keepsBy_35 : decode cX7_keepsBy 35 = .ok (.aload_n 0, 1) := by decide +kernel
theorem dX7_keepsBy_36 : decode cX7_keepsBy 36 = .ok (.getfield 73, 3) := by decide +kernel
theorem dX7_keepsBy_39 : decode cX7_keepsBy 39 = .ok (.iload_n 1, 1) := by decide +kernel
theorem dX7_keepsBy_40 : decode cX7_keepsBy 40 = .ok (.if_icmp .ne 9, 3) := by decide +kernel
theorem dX7_keepsBy_43 : decode cX7_keepsBy 43 = .ok (.iload_n 3, 1) := by decide +kernel
theorem dX7_keepsBy_44 : decode cX7_keepsBy 44 = .ok (.iconst 1, 1) := by decide +kernel
theorem dX7_keepsBy_45 : decode cX7_keepsBy 45 = .ok (.iadd, 1) := by decide +kernel
theorem dX7_keepsBy_46 : decode cX7_keepsBy 46 = .ok (.goto 4, 3) := by decide +kernel
theorem dX7_keepsBy_49 : decode cX7_keepsBy 49 = .ok (.iload_n 3, 1) := by decide +kernel
theorem dX7_keepsBy_50 : decode cX7_keepsBy 50 = .ok (.ireturn, 1) := by decide +kernel
theorem dX7_ofInn_0 : decode cX7_ofInn 0 = .ok (.aload_n 0, 1) := by decide +kernel
theorem dX7_ofInn_1 : decode cX7_ofInn 1 = .ok (.iload_n 1, 1) := by decide +kernel
theorem dX7_ofInn_2 : decode cX7_ofInn 2 = .ok (.invokevirtual 159, 3) := by decide +kernel
theorem dX7_ofInn_5 : decode cX7_ofInn 5 = .ok (.ifCond .eq 5, 3) := by decide +kernel
theorem dX7_ofInn_8 : decode cX7_ofInn 8 = .ok (.iconst (-1), 1) := by decide +kernel
theorem dX7_ofInn_9 : decode cX7_ofInn 9 = .ok (.ireturn, 1) := by decide +kernel
theorem dX7_ofInn_10 : decode cX7_ofInn 10 = .ok (.iload_n 2, 1) := by decide +kernel
theorem dX7_ofInn_11 : decode cX7_ofInn 11 = .ok (.ifCond .ne 12, 3) := by decide +kernel
theorem dX7_ofInn_14 : decode cX7_ofInn 14 = .ok (.aload_n 0, 1) := by decide +kernel
theorem dX7_ofInn_15 : decode cX7_ofInn 15 = .ok (.getfield 7, 3) := by decide +kernel
theorem dX7_ofInn_18 : decode cX7_ofInn 18 = .ok (.iload_n 1, 1) := by decide +kernel
theorem dX7_ofInn_19 : decode cX7_ofInn 19 = .ok (.iaload, 1) := by decide +kernel
theorem dX7_ofInn_20 : decode cX7_ofInn 20 = .ok (.goto 38, 3) := by decide +kernel
theorem dX7_ofInn_23 : decode cX7_ofInn 23 = .ok (.iload_n 2, 1) := by decide +kernel
theorem dX7_ofInn_24 : decode cX7_ofInn 24 = .ok (.iconst 1, 1) := by decide +kernel
theorem dX7_ofInn_25 : decode cX7_ofInn 25 = .ok (.if_icmp .ne 12, 3) := by decide +kernel
theorem dX7_ofInn_28 : decode cX7_ofInn 28 = .ok (.aload_n 0, 1) := by decide +kernel
theorem dX7_ofInn_29 : decode cX7_ofInn 29 = .ok (.getfield 13, 3) := by decide +kernel
theorem dX7_ofInn_32 : decode cX7_ofInn 32 = .ok (.iload_n 1, 1) := by decide +kernel
theorem dX7_ofInn_33 : decode cX7_ofInn 33 = .ok (.iaload, 1) := by decide +kernel
theorem dX7_ofInn_34 : decode cX7_ofInn 34 = .ok (.goto 24, 3) := by decide +kernel
theorem dX7_ofInn_37 : decode cX7_ofInn 37 = .ok (.iload_n 2, 1) := by decide +kernel
theorem dX7_ofInn_38 : decode cX7_ofInn 38 = .ok (.iconst 2, 1) := by decide +kernel
theorem dX7_ofInn_39 : decode cX7_ofInn 39 = .ok (.if_icmp .ne 17, 3) := by decide +kernel
theorem dX7_ofInn_42 : decode cX7_ofInn 42 = .ok (.aload_n 0, 1) := by decide +kernel
theorem dX7_ofInn_43 : decode cX7_ofInn 43 = .ok (.iload_n 1, 1) := by decide +kernel
theorem dX7_ofInn_44 : decode cX7_ofInn 44 = .ok (.aload_n 0, 1) := by decide +kernel
theorem dX7_ofInn_45 : decode cX7_ofInn 45 = .ok (.getfield 13, 3) := by decide +kernel
theorem dX7_ofInn_48 : decode cX7_ofInn 48 = .ok (.iload_n 1, 1) := by decide +kernel
theorem dX7_ofInn_49 : decode cX7_ofInn 49 = .ok (.iaload, 1) := by decide +kernel
theorem dX7_ofInn_50 : decode cX7_ofInn 50 = .ok (.invokevirtual 162, 3) := by decide +kernel
theorem dX7_ofInn_53 : decode cX7_ofInn 53 = .ok (.goto 5, 3) := by decide +kernel
theorem dX7_ofInn_56 : decode cX7_ofInn 56 = .ok (.bipush (-2), 2) := by decide +kernel
theorem dX7_ofInn_58 : decode cX7_ofInn 58 = .ok (.ireturn, 1) := by decide +kernel
theorem dX7_ofGuest_0 : decode cX7_ofGuest 0 = .ok (.aload_n 0, 1) := by decide +kernel
theorem dX7_ofGuest_1 : decode cX7_ofGuest 1 = .ok (.iload_n 1, 1) := by decide +kernel
theorem dX7_ofGuest_2 : decode cX7_ofGuest 2 = .ok (.invokevirtual 165, 3) := by decide +kernel
theorem dX7_ofGuest_5 : decode cX7_ofGuest 5 = .ok (.ifCond .eq 5, 3) := by decide +kernel
theorem dX7_ofGuest_8 : decode cX7_ofGuest 8 = .ok (.iconst (-1), 1) := by decide +kernel
theorem dX7_ofGuest_9 : decode cX7_ofGuest 9 = .ok (.ireturn, 1) := by decide +kernel
theorem dX7_ofGuest_10 : decode cX7_ofGuest 10 = .ok (.iload_n 2, 1) := by decide +kernel
theorem dX7_ofGuest_11 : decode cX7_ofGuest 11 = .ok (.ifCond .ne 12, 3) := by decide +kernel
theorem dX7_ofGuest_14 : decode cX7_ofGuest 14 = .ok (.aload_n 0, 1) := by decide +kernel
theorem dX7_ofGuest_15 : decode cX7_ofGuest 15 = .ok (.getfield 22, 3) := by decide +kernel
theorem dX7_ofGuest_18 : decode cX7_ofGuest 18 = .ok (.iload_n 1, 1) := by decide +kernel
theorem dX7_ofGuest_19 : decode cX7_ofGuest 19 = .ok (.iaload, 1) := by decide +kernel
theorem dX7_ofGuest_20 : decode cX7_ofGuest 20 = .ok (.goto 19, 3) := by decide +kernel
theorem dX7_ofGuest_23 : decode cX7_ofGuest 23 = .ok (.iload_n 2, 1) := by decide +kernel
theorem dX7_ofGuest_24 : decode cX7_ofGuest 24 = .ok (.iconst 1, 1) := by decide +kernel
theorem dX7_ofGuest_25 : decode cX7_ofGuest 25 = .ok (.if_icmp .ne 12, 3) := by decide +kernel
theorem dX7_ofGuest_28 : decode cX7_ofGuest 28 = .ok (.aload_n 0, 1) := by decide +kernel
theorem dX7_ofGuest_29 : decode cX7_ofGuest 29 = .ok (.getfield 25, 3) := by decide +kernel
theorem dX7_ofGuest_32 : decode cX7_ofGuest 32 = .ok (.iload_n 1, 1) := by decide +kernel
theorem dX7_ofGuest_33 : decode cX7_ofGuest 33 = .ok (.iaload, 1) := by decide +kernel
theorem dX7_ofGuest_34 : decode cX7_ofGuest 34 = .ok (.goto 5, 3) := by decide +kernel
theorem dX7_ofGuest_37 : decode cX7_ofGuest 37 = .ok (.bipush (-2), 2) := by decide +kernel
theorem dX7_ofGuest_39 : decode cX7_ofGuest 39 = .ok (.ireturn, 1) := by decide +kernel
theorem dX7_ofNight_0 : decode cX7_ofNight 0 = .ok (.aload_n 0, 1) := by decide +kernel
theorem dX7_ofNight_1 : decode cX7_ofNight 1 = .ok (.getfield 86, 3) := by decide +kernel
theorem dX7_ofNight_4 : decode cX7_ofNight 4 = .ok (.ifCond .ne 6, 3) := by decide +kernel
theorem dX7_ofNight_7 : decode cX7_ofNight 7 = .ok (.bipush (-3), 2) := by decide +kernel
theorem dX7_ofNight_9 : decode cX7_ofNight 9 = .ok (.ireturn, 1) := by decide +kernel
theorem dX7_ofNight_10 : decode cX7_ofNight 10 = .ok (.aload_n 0, 1) := by decide +kernel
theorem dX7_ofNight_11 : decode cX7_ofNight 11 = .ok (.iload_n 1, 1) := by decide +kernel
theorem dX7_ofNight_12 : decode cX7_ofNight 12 = .ok (.invokevirtual 168, 3) := by decide +kernel
theorem dX7_ofNight_15 : decode cX7_ofNight 15 = .ok (.ifCond .ne 13, 3) := by decide +kernel
theorem dX7_ofNight_18 : decode cX7_ofNight 18 = .ok (.iload_n 2, 1) := by decide +kernel
theorem dX7_ofNight_19 : decode cX7_ofNight 19 = .ok (.i2l, 1) := by decide +kernel
theorem dX7_ofNight_20 : decode cX7_ofNight 20 = .ok (.lconst 0, 1) := by decide +kernel
theorem dX7_ofNight_21 : decode cX7_ofNight 21 = .ok (.lconst 1, 1) := by decide +kernel
theorem dX7_ofNight_22 : decode cX7_ofNight 22 = .ok (.invokestatic 89, 3) := by decide +kernel
theorem dX7_ofNight_25 : decode cX7_ofNight 25 = .ok (.ifCond .ne 6, 3) := by decide +kernel
theorem dX7_ofNight_28 : decode cX7_ofNight 28 = .ok (.bipush (-2), 2) := by decide +kernel
theorem dX7_ofNight_30 : decode cX7_ofNight 30 = .ok (.ireturn, 1) := by decide +kernel
theorem dX7_ofNight_31 : decode cX7_ofNight 31 = .ok (.iload_n 2, 1) := by decide +kernel
theorem dX7_ofNight_32 : decode cX7_ofNight 32 = .ok (.ifCond .ne 12, 3) := by decide +kernel
theorem dX7_ofNight_35 : decode cX7_ofNight 35 = .ok (.aload_n 0, 1) := by decide +kernel
theorem dX7_ofNight_36 : decode cX7_ofNight 36 = .ok (.getfield 16, 3) := by decide +kernel
theorem dX7_ofNight_39 : decode cX7_ofNight 39 = .ok (.iload_n 1, 1) := by decide +kernel
theorem dX7_ofNight_40 : decode cX7_ofNight 40 = .ok (.iaload, 1) := by decide +kernel
theorem dX7_ofNight_41 : decode cX7_ofNight 41 = .ok (.goto 9, 3) := by decide +kernel
theorem dX7_ofNight_44 : decode cX7_ofNight 44 = .ok (.aload_n 0, 1) := by decide +kernel
theorem dX7_ofNight_45 : decode cX7_ofNight 45 = .ok (.getfield 19, 3) := by decide +kernel
theorem dX7_ofNight_48 : decode cX7_ofNight 48 = .ok (.iload_n 1, 1) := by decide +kernel
theorem dX7_ofNight_49 : decode cX7_ofNight 49 = .ok (.iaload, 1) := by decide +kernel
theorem dX7_ofNight_50 : decode cX7_ofNight 50 = .ok (.ireturn, 1) := by decide +kernel
theorem dX7_rule_0 : decode cX7_rule 0 = .ok (.iload_n 1, 1) := by decide +kernel
theorem dX7_rule_1 : decode cX7_rule 1 = .ok (.i2l, 1) := by decide +kernel
theorem dX7_rule_2 : decode cX7_rule 2 = .ok (.lconst 0, 1) := by decide +kernel
theorem dX7_rule_3 : decode cX7_rule 3 = .ok (.lconst 1, 1) := by decide +kernel
theorem dX7_rule_4 : decode cX7_rule 4 = .ok (.invokestatic 89, 3) := by decide +kernel
theorem dX7_rule_7 : decode cX7_rule 7 = .ok (.ifCond .ne 6, 3) := by decide +kernel
theorem dX7_rule_10 : decode cX7_rule 10 = .ok (.bipush (-2), 2) := by decide +kernel
theorem dX7_rule_12 : decode cX7_rule 12 = .ok (.ireturn, 1) := by decide +kernel
theorem dX7_rule_13 : decode cX7_rule 13 = .ok (.aload_n 0, 1) := by decide +kernel
theorem dX7_rule_14 : decode cX7_rule 14 = .ok (.getfield 86, 3) := by decide +kernel
theorem dX7_rule_17 : decode cX7_rule 17 = .ok (.ifCond .ne 6, 3) := by decide +kernel
theorem dX7_rule_20 : decode cX7_rule 20 = .ok (.bipush (-3), 2) := by decide +kernel
theorem dX7_rule_22 : decode cX7_rule 22 = .ok (.ireturn, 1) := by decide +kernel
theorem dX7_rule_23 : decode cX7_rule 23 = .ok (.aload_n 0, 1) := by decide +kernel
theorem dX7_rule_24 : decode cX7_rule 24 = .ok (.getfield 153, 3) := by decide +kernel
theorem dX7_rule_27 : decode cX7_rule 27 = .ok (.istore_n 2, 1) := by decide +kernel
theorem dX7_rule_28 : decode cX7_rule 28 = .ok (.aload_n 0, 1) := by decide +kernel
theorem dX7_rule_29 : decode cX7_rule 29 = .ok (.iload_n 1, 1) := by decide +kernel
theorem dX7_rule_30 : decode cX7_rule 30 = .ok (.putfield 153, 3) := by decide +kernel
theorem dX7_rule_33 : decode cX7_rule 33 = .ok (.iload_n 2, 1) := by decide +kernel
theorem dX7_rule_34 : decode cX7_rule 34 = .ok (.ireturn, 1) := by decide +kernel
theorem dX7_fall_0 : decode cX7_fall 0 = .ok (.aload_n 0, 1) := by decide +kernel
theorem dX7_fall_1 : decode cX7_fall 1 = .ok (.getfield 86, 3) := by decide +kernel
theorem dX7_fall_4 : decode cX7_fall 4 = .ok (.ifCond .ne 6, 3) := by decide +kernel
theorem dX7_fall_7 : decode cX7_fall 7 = .ok (.bipush (-3), 2) := by decide +kernel
theorem dX7_fall_9 : decode cX7_fall 9 = .ok (.ireturn, 1) := by decide +kernel
theorem dX7_fall_10 : decode cX7_fall 10 = .ok (.aload_n 0, 1) := by decide +kernel
theorem dX7_fall_11 : decode cX7_fall 11 = .ok (.iload_n 1, 1) := by decide +kernel
theorem dX7_fall_12 : decode cX7_fall 12 = .ok (.invokevirtual 168, 3) := by decide +kernel
theorem dX7_fall_15 : decode cX7_fall 15 = .ok (.ifCond .ne 15, 3) := by decide +kernel
theorem dX7_fall_18 : decode cX7_fall 18 = .ok (.iload_n 2, 1) := by decide +kernel
theorem dX7_fall_19 : decode cX7_fall 19 = .ok (.i2l, 1) := by decide +kernel
theorem dX7_fall_20 : decode cX7_fall 20 = .ok (.lconst 0, 1) := by decide +kernel
theorem dX7_fall_21 : decode cX7_fall 21 = .ok (.ldc2_w 171, 3) := by decide +kernel
theorem dX7_fall_24 : decode cX7_fall 24 = .ok (.invokestatic 89, 3) := by decide +kernel
theorem dX7_fall_27 : decode cX7_fall 27 = .ok (.ifCond .ne 6, 3) := by decide +kernel
theorem dX7_fall_30 : decode cX7_fall 30 = .ok (.bipush (-2), 2) := by decide +kernel
theorem dX7_fall_32 : decode cX7_fall 32 = .ok (.ireturn, 1) := by decide +kernel
theorem dX7_fall_33 : decode cX7_fall 33 = .ok (.aload_n 0, 1) := by decide +kernel
theorem dX7_fall_34 : decode cX7_fall 34 = .ok (.getfield 19, 3) := by decide +kernel
theorem dX7_fall_37 : decode cX7_fall 37 = .ok (.iload_n 1, 1) := by decide +kernel
theorem dX7_fall_38 : decode cX7_fall 38 = .ok (.iaload, 1) := by decide +kernel
theorem dX7_fall_39 : decode cX7_fall 39 = .ok (.istore_n 3, 1) := by decide +kernel
theorem dX7_fall_40 : decode cX7_fall 40 = .ok (.aload_n 0, 1) := by decide +kernel
theorem dX7_fall_41 : decode cX7_fall 41 = .ok (.getfield 19, 3) := by decide +kernel
theorem dX7_fall_44 : decode cX7_fall 44 = .ok (.iload_n 1, 1) := by decide +kernel
theorem dX7_fall_45 : decode cX7_fall 45 = .ok (.iload_n 2, 1) := by decide +kernel
theorem dX7_fall_46 : decode cX7_fall 46 = .ok (.iastore, 1) := by decide +kernel
theorem dX7_fall_47 : decode cX7_fall 47 = .ok (.iload_n 3, 1) := by decide +kernel
theorem dX7_fall_48 : decode cX7_fall 48 = .ok (.ireturn, 1) := by decide +kernel
theorem dX7_gust_0 : decode cX7_gust 0 = .ok (.aload_n 0, 1) := by decide +kernel
theorem dX7_gust_1 : decode cX7_gust 1 = .ok (.getfield 86, 3) := by decide +kernel
theorem dX7_gust_4 : decode cX7_gust 4 = .ok (.ifCond .ne 6, 3) := by decide +kernel
theorem dX7_gust_7 : decode cX7_gust 7 = .ok (.bipush (-3), 2) := by decide +kernel
theorem dX7_gust_9 : decode cX7_gust 9 = .ok (.ireturn, 1) := by decide +kernel
theorem dX7_gust_10 : decode cX7_gust 10 = .ok (.aload_n 0, 1) := by decide +kernel
theorem dX7_gust_11 : decode cX7_gust 11 = .ok (.iload_n 1, 1) := by decide +kernel
theorem dX7_gust_12 : decode cX7_gust 12 = .ok (.invokevirtual 168, 3) := by decide +kernel
theorem dX7_gust_15 : decode cX7_gust 15 = .ok (.ifCond .eq 6, 3) := by decide +kernel
theorem dX7_gust_18 : decode cX7_gust 18 = .ok (.bipush (-2), 2) := by decide +kernel
theorem dX7_gust_20 : decode cX7_gust 20 = .ok (.ireturn, 1) := by decide +kernel
theorem dX7_gust_21 : decode cX7_gust 21 = .ok (.aload_n 0, 1) := by decide +kernel
theorem dX7_gust_22 : decode cX7_gust 22 = .ok (.getfield 16, 3) := by decide +kernel
theorem dX7_gust_25 : decode cX7_gust 25 = .ok (.iload_n 1, 1) := by decide +kernel
theorem dX7_gust_26 : decode cX7_gust 26 = .ok (.iaload, 1) := by decide +kernel
theorem dX7_gust_27 : decode cX7_gust 27 = .ok (.iconst 1, 1) := by decide +kernel
theorem dX7_gust_28 : decode cX7_gust 28 = .ok (.if_icmp .ne 7, 3) := by decide +kernel
theorem dX7_gust_31 : decode cX7_gust 31 = .ok (.iconst 1, 1) := by decide +kernel
theorem dX7_gust_32 : decode cX7_gust 32 = .ok (.goto 4, 3) := by decide +kernel
theorem dX7_gust_35 : decode cX7_gust 35 = .ok (.iconst 0, 1) := by decide +kernel
theorem dX7_gust_36 : decode cX7_gust 36 = .ok (.istore_n 3, 1) := by decide +kernel
theorem dX7_gust_37 : decode cX7_gust 37 = .ok (.aload_n 0, 1) := by decide +kernel
theorem dX7_gust_38 : decode cX7_gust 38 = .ok (.getfield 16, 3) := by decide +kernel
theorem dX7_gust_41 : decode cX7_gust 41 = .ok (.iload_n 1, 1) := by decide +kernel
theorem dX7_gust_42 : decode cX7_gust 42 = .ok (.iload_n 2, 1) := by decide +kernel
theorem dX7_gust_43 : decode cX7_gust 43 = .ok (.ifCond .eq 7, 3) := by decide +kernel
theorem dX7_gust_46 : decode cX7_gust 46 = .ok (.iconst 1, 1) := by decide +kernel
theorem dX7_gust_47 : decode cX7_gust 47 = .ok (.goto 4, 3) := by decide +kernel
theorem dX7_gust_50 : decode cX7_gust 50 = .ok (.iconst 0, 1) := by decide +kernel
theorem dX7_gust_51 : decode cX7_gust 51 = .ok (.iastore, 1) := by decide +kernel
theorem dX7_gust_52 : decode cX7_gust 52 = .ok (.iload_n 3, 1) := by decide +kernel
theorem dX7_gust_53 : decode cX7_gust 53 = .ok (.iload_n 2, 1) := by decide +kernel
theorem dX7_gust_54 : decode cX7_gust 54 = .ok (.if_icmp .ne 7, 3) := by decide +kernel
theorem dX7_gust_57 : decode cX7_gust 57 = .ok (.iconst 0, 1) := by decide +kernel
theorem dX7_gust_58 : decode cX7_gust 58 = .ok (.goto 4, 3) := by decide +kernel
theorem dX7_gust_61 : decode cX7_gust 61 = .ok (.iconst 1, 1) := by decide +kernel
theorem dX7_gust_62 : decode cX7_gust 62 = .ok (.ireturn, 1) := by decide +kernel
theorem dX7_lodge_0 : decode cX7_lodge 0 = .ok (.aload_n 0, 1) := by decide +kernel
theorem dX7_lodge_1 : decode cX7_lodge 1 = .ok (.iload_n 1, 1) := by decide +kernel
theorem dX7_lodge_2 : decode cX7_lodge 2 = .ok (.invokevirtual 165, 3) := by decide +kernel
theorem dX7_lodge_5 : decode cX7_lodge 5 = .ok (.ifCond .ne 11, 3) := by decide +kernel
theorem dX7_lodge_8 : decode cX7_lodge 8 = .ok (.aload_n 0, 1) := by decide +kernel
theorem dX7_lodge_9 : decode cX7_lodge 9 = .ok (.iload_n 2, 1) := by decide +kernel
theorem dX7_lodge_10 : decode cX7_lodge 10 = .ok (.invokevirtual 159, 3) := by decide +kernel
theorem dX7_lodge_13 : decode cX7_lodge 13 = .ok (.ifCond .eq 5, 3) := by decide +kernel
theorem dX7_lodge_16 : decode cX7_lodge 16 = .ok (.iconst (-1), 1) := by decide +kernel
theorem dX7_lodge_17 : decode cX7_lodge 17 = .ok (.ireturn, 1) := by decide +kernel
theorem dX7_lodge_18 : decode cX7_lodge 18 = .ok (.aload_n 0, 1) := by decide +kernel
theorem dX7_lodge_19 : decode cX7_lodge 19 = .ok (.getfield 25, 3) := by decide +kernel
theorem dX7_lodge_22 : decode cX7_lodge 22 = .ok (.iload_n 1, 1) := by decide +kernel
theorem dX7_lodge_23 : decode cX7_lodge 23 = .ok (.iaload, 1) := by decide +kernel
theorem dX7_lodge_24 : decode cX7_lodge 24 = .ok (.istore_n 3, 1) := by decide +kernel
theorem dX7_lodge_25 : decode cX7_lodge 25 = .ok (.aload_n 0, 1) := by decide +kernel
theorem dX7_lodge_26 : decode cX7_lodge 26 = .ok (.getfield 25, 3) := by decide +kernel
theorem dX7_lodge_29 : decode cX7_lodge 29 = .ok (.iload_n 1, 1) := by decide +kernel
theorem dX7_lodge_30 : decode cX7_lodge 30 = .ok (.iload_n 2, 1) := by decide +kernel
theorem dX7_lodge_31 : decode cX7_lodge 31 = .ok (.iastore, 1) := by decide +kernel
theorem dX7_lodge_32 : decode cX7_lodge 32 = .ok (.iload_n 3, 1) := by decide +kernel
theorem dX7_lodge_33 : decode cX7_lodge 33 = .ok (.ireturn, 1) := by decide +kernel
theorem dX7_swept_0 : decode cX7_swept 0 = .ok (.iload_n 3, 1) := by decide +kernel
theorem dX7_swept_1 : decode cX7_swept 1 = .ok (.aload_n 0, 1) := by decide +kernel
theorem dX7_swept_2 : decode cX7_swept 2 = .ok (.getfield 13, 3) := by decide +kernel
theorem dX7_swept_5 : decode cX7_swept 5 = .ok (.iload_n 1, 1) := by decide +kernel
theorem dX7_swept_6 : decode cX7_swept 6 = .ok (.iaload, 1) := by decide +kernel
theorem dX7_swept_7 : decode cX7_swept 7 = .ok (.if_icmp .ge 7, 3) := by decide +kernel
theorem dX7_swept_10 : decode cX7_swept 10 = .ok (.iload_n 3, 1) := by decide +kernel
theorem dX7_swept_11 : decode cX7_swept 11 = .ok (.goto 9, 3) := by decide +kernel
theorem dX7_swept_14 : decode cX7_swept 14 = .ok (.aload_n 0, 1) := by decide +kernel
theorem dX7_swept_15 : decode cX7_swept 15 = .ok (.getfield 13, 3) := by decide +kernel
theorem dX7_swept_18 : decode cX7_swept 18 = .ok (.iload_n 1, 1) := by decide +kernel
theorem dX7_swept_19 : decode cX7_swept 19 = .ok (.iaload, 1) := by decide +kernel
theorem dX7_swept_20 : decode cX7_swept 20 = .ok (.istore 4, 2) := by decide +kernel
theorem dX7_swept_22 : decode cX7_swept 22 = .ok (.bipush 9, 2) := by decide +kernel
theorem dX7_swept_24 : decode cX7_swept 24 = .ok (.aload_n 0, 1) := by decide +kernel
theorem dX7_swept_25 : decode cX7_swept 25 = .ok (.getfield 13, 3) := by decide +kernel
theorem dX7_swept_28 : decode cX7_swept 28 = .ok (.iload_n 2, 1) := by decide +kernel
theorem dX7_swept_29 : decode cX7_swept 29 = .ok (.iaload, 1) := by decide +kernel
theorem dX7_swept_30 : decode cX7_swept 30 = .ok (.isub, 1) := by decide +kernel
theorem dX7_swept_31 : decode cX7_swept 31 = .ok (.istore 5, 2) := by decide +kernel
theorem dX7_swept_33 : decode cX7_swept 33 = .ok (.aload_n 0, 1) := by decide +kernel
theorem dX7_swept_34 : decode cX7_swept 34 = .ok (.getfield 13, 3) := by decide +kernel
theorem dX7_swept_37 : decode cX7_swept 37 = .ok (.iload_n 1, 1) := by decide +kernel
theorem dX7_swept_38 : decode cX7_swept 38 = .ok (.dup2, 1) := by decide +kernel
theorem dX7_swept_39 : decode cX7_swept 39 = .ok (.iaload, 1) := by decide +kernel
theorem dX7_swept_40 : decode cX7_swept 40 = .ok (.iload 4, 2) := by decide +kernel
theorem dX7_swept_42 : decode cX7_swept 42 = .ok (.isub, 1) := by decide +kernel
theorem dX7_swept_43 : decode cX7_swept 43 = .ok (.iastore, 1) := by decide +kernel
theorem dX7_swept_44 : decode cX7_swept 44 = .ok (.aload_n 0, 1) := by decide +kernel
theorem dX7_swept_45 : decode cX7_swept 45 = .ok (.getfield 13, 3) := by decide +kernel
theorem dX7_swept_48 : decode cX7_swept 48 = .ok (.iload_n 2, 1) := by decide +kernel
theorem dX7_swept_49 : decode cX7_swept 49 = .ok (.dup2, 1) := by decide +kernel
theorem dX7_swept_50 : decode cX7_swept 50 = .ok (.iaload, 1) := by decide +kernel
theorem dX7_swept_51 : decode cX7_swept 51 = .ok (.iload 4, 2) := by decide +kernel
theorem dX7_swept_53 : decode cX7_swept 53 = .ok (.iload 5, 2) := by decide +kernel
theorem dX7_swept_55 : decode cX7_swept 55 = .ok (.if_icmp .ge 8, 3) := by decide +kernel
theorem dX7_swept_58 : decode cX7_swept 58 = .ok (.iload 4, 2) := by decide +kernel
theorem dX7_swept_60 : decode cX7_swept 60 = .ok (.goto 5, 3) := by decide +kernel
theorem dX7_swept_63 : decode cX7_swept 63 = .ok (.iload 5, 2) := by decide +kernel
theorem dX7_swept_65 : decode cX7_swept 65 = .ok (.iadd, 1) := by decide +kernel
theorem dX7_swept_66 : decode cX7_swept 66 = .ok (.iastore, 1) := by decide +kernel
theorem dX7_swept_67 : decode cX7_swept 67 = .ok (.iload 4, 2) := by decide +kernel
theorem dX7_swept_69 : decode cX7_swept 69 = .ok (.iload 5, 2) := by decide +kernel
theorem dX7_swept_71 : decode cX7_swept 71 = .ok (.if_icmp .ge 8, 3) := by decide +kernel
theorem dX7_swept_74 : decode cX7_swept 74 = .ok (.iload 4, 2) := by decide +kernel
theorem dX7_swept_76 : decode cX7_swept 76 = .ok (.goto 5, 3) := by decide +kernel
theorem dX7_swept_79 : decode cX7_swept 79 = .ok (.iload 5, 2) := by decide +kernel
theorem dX7_swept_81 : decode cX7_swept 81 = .ok (.ireturn, 1) := by decide +kernel
theorem dX7_sweep_0 : decode cX7_sweep 0 = .ok (.iload_n 2, 1) := by decide +kernel
theorem dX7_sweep_1 : decode cX7_sweep 1 = .ok (.ifCond .eq 9, 3) := by decide +kernel
theorem dX7_sweep_4 : decode cX7_sweep 4 = .ok (.iload_n 1, 1) := by decide +kernel
theorem dX7_sweep_5 : decode cX7_sweep 5 = .ok (.iconst 1, 1) := by decide +kernel
theorem dX7_sweep_6 : decode cX7_sweep 6 = .ok (.iadd, 1) := by decide +kernel
theorem dX7_sweep_7 : decode cX7_sweep 7 = .ok (.goto 6, 3) := by decide +kernel
theorem dX7_sweep_10 : decode cX7_sweep 10 = .ok (.iload_n 1, 1) := by decide +kernel
theorem dX7_sweep_11 : decode cX7_sweep 11 = .ok (.iconst 1, 1) := by decide +kernel
theorem dX7_sweep_12 : decode cX7_sweep 12 = .ok (.isub, 1) := by decide +kernel
theorem dX7_sweep_13 : decode cX7_sweep 13 = .ok (.istore 4, 2) := by decide +kernel
theorem dX7_sweep_15 : decode cX7_sweep 15 = .ok (.aload_n 0, 1) := by decide +kernel
theorem dX7_sweep_16 : decode cX7_sweep 16 = .ok (.iload_n 1, 1) := by decide +kernel
theorem dX7_sweep_17 : decode cX7_sweep 17 = .ok (.invokevirtual 159, 3) := by decide +kernel
theorem dX7_sweep_20 : decode cX7_sweep 20 = .ok (.ifCond .ne 12, 3) := by decide +kernel
theorem dX7_sweep_23 : decode cX7_sweep 23 = .ok (.aload_n 0, 1) := by decide +kernel
theorem dX7_sweep_24 : decode cX7_sweep 24 = .ok (.iload 4, 2) := by decide +kernel
theorem dX7_sweep_26 : decode cX7_sweep 26 = .ok (.invokevirtual 159, 3) := by decide +kernel
theorem dX7_sweep_29 : decode cX7_sweep 29 = .ok (.ifCond .eq 5, 3) := by decide +kernel
theorem dX7_sweep_32 : decode cX7_sweep 32 = .ok (.iconst (-1), 1) := by decide +kernel
theorem dX7_sweep_33 : decode cX7_sweep 33 = .ok (.ireturn, 1) := by decide +kernel
theorem dX7_sweep_34 : decode cX7_sweep 34 = .ok (.iload_n 3, 1) := by decide +kernel
theorem dX7_sweep_35 : decode cX7_sweep 35 = .ok (.i2l, 1) := by decide +kernel
theorem dX7_sweep_36 : decode cX7_sweep 36 = .ok (.lconst 0, 1) := by decide +kernel
theorem dX7_sweep_37 : decode cX7_sweep 37 = .ok (.ldc2_w 173, 3) := by decide +kernel
theorem dX7_sweep_40 : decode cX7_sweep 40 = .ok (.invokestatic 89, 3) := by decide +kernel
theorem dX7_sweep_43 : decode cX7_sweep 43 = .ok (.ifCond .eq 14, 3) := by decide +kernel
theorem dX7_sweep_46 : decode cX7_sweep 46 = .ok (.aload_n 0, 1) := by decide +kernel
theorem dX7_sweep_47 : decode cX7_sweep 47 = .ok (.iload_n 1, 1) := by decide +kernel
theorem dX7_sweep_48 : decode cX7_sweep 48 = .ok (.iload 4, 2) := by decide +kernel
theorem dX7_sweep_50 : decode cX7_sweep 50 = .ok (.iload_n 3, 1) := by decide +kernel
theorem dX7_sweep_51 : decode cX7_sweep 51 = .ok (.invokevirtual 175, 3) := by decide +kernel
theorem dX7_sweep_54 : decode cX7_sweep 54 = .ok (.goto 5, 3) := by decide +kernel
theorem dX7_sweep_57 : decode cX7_sweep 57 = .ok (.bipush (-2), 2) := by decide +kernel
theorem dX7_sweep_59 : decode cX7_sweep 59 = .ok (.ireturn, 1) := by decide +kernel
theorem dX7_begin_0 : decode cX7_begin 0 = .ok (.iconst 0, 1) := by decide +kernel
theorem dX7_begin_1 : decode cX7_begin 1 = .ok (.istore_n 1, 1) := by decide +kernel
theorem dX7_begin_2 : decode cX7_begin 2 = .ok (.iload_n 1, 1) := by decide +kernel
theorem dX7_begin_3 : decode cX7_begin 3 = .ok (.aload_n 0, 1) := by decide +kernel
theorem dX7_begin_4 : decode cX7_begin 4 = .ok (.getfield 93, 3) := by decide +kernel
theorem dX7_begin_7 : decode cX7_begin 7 = .ok (.if_icmp .ge 21, 3) := by decide +kernel
theorem dX7_begin_10 : decode cX7_begin 10 = .ok (.aload_n 0, 1) := by decide +kernel
theorem dX7_begin_11 : decode cX7_begin 11 = .ok (.getfield 46, 3) := by decide +kernel
theorem dX7_begin_14 : decode cX7_begin 14 = .ok (.iload_n 1, 1) := by decide +kernel
theorem dX7_begin_15 : decode cX7_begin 15 = .ok (.aload_n 0, 1) := by decide +kernel
theorem dX7_begin_16 : decode cX7_begin 16 = .ok (.getfield 25, 3) := by decide +kernel
theorem dX7_begin_19 : decode cX7_begin 19 = .ok (.iload_n 1, 1) := by decide +kernel
theorem dX7_begin_20 : decode cX7_begin 20 = .ok (.iaload, 1) := by decide +kernel
theorem dX7_begin_21 : decode cX7_begin 21 = .ok (.iastore, 1) := by decide +kernel
theorem dX7_begin_22 : decode cX7_begin 22 = .ok (.iinc 1 1, 3) := by decide +kernel
theorem dX7_begin_25 : decode cX7_begin 25 = .ok (.goto (-23), 3) := by decide +kernel
theorem dX7_begin_28 : decode cX7_begin 28 = .ok (.iconst 0, 1) := by decide +kernel
theorem dX7_begin_29 : decode cX7_begin 29 = .ok (.istore_n 1, 1) := by decide +kernel
theorem dX7_begin_30 : decode cX7_begin 30 = .ok (.iload_n 1, 1) := by decide +kernel
theorem dX7_begin_31 : decode cX7_begin 31 = .ok (.aload_n 0, 1) := by decide +kernel
theorem dX7_begin_32 : decode cX7_begin 32 = .ok (.getfield 86, 3) := by decide +kernel
theorem dX7_begin_35 : decode cX7_begin 35 = .ok (.if_icmp .ge 21, 3) := by decide +kernel
theorem dX7_begin_38 : decode cX7_begin 38 = .ok (.aload_n 0, 1) := by decide +kernel
theorem dX7_begin_39 : decode cX7_begin 39 = .ok (.getfield 49, 3) := by decide +kernel
theorem dX7_begin_42 : decode cX7_begin 42 = .ok (.iload_n 1, 1) := by decide +kernel
theorem dX7_begin_43 : decode cX7_begin 43 = .ok (.aload_n 0, 1) := by decide +kernel
theorem dX7_begin_44 : decode cX7_begin 44 = .ok (.getfield 13, 3) := by decide +kernel
theorem dX7_begin_47 : decode cX7_begin 47 = .ok (.iload_n 1, 1) := by decide +kernel
theorem dX7_begin_48 : decode cX7_begin 48 = .ok (.iaload, 1) := by decide +kernel
theorem dX7_begin_49 : decode cX7_begin 49 = .ok (.iastore, 1) := by decide +kernel
theorem dX7_begin_50 : decode cX7_begin 50 = .ok (.iinc 1 1, 3) := by decide +kernel
theorem dX7_begin_53 : decode cX7_begin 53 = .ok (.goto (-23), 3) := by decide +kernel
theorem dX7_begin_56 : decode cX7_begin 56 = .ok (.aload_n 0, 1) := by decide +kernel
theorem dX7_begin_57 : decode cX7_begin 57 = .ok (.iconst 0, 1) := by decide +kernel
theorem dX7_begin_58 : decode cX7_begin 58 = .ok (.putfield 179, 3) := by decide +kernel
theorem dX7_begin_61 : decode cX7_begin 61 = .ok (.return_, 1) := by decide +kernel
theorem dX7_passOn_0 : decode cX7_passOn 0 = .ok (.aload_n 0, 1) := by decide +kernel
theorem dX7_passOn_1 : decode cX7_passOn 1 = .ok (.iload_n 1, 1) := by decide +kernel
theorem dX7_passOn_2 : decode cX7_passOn 2 = .ok (.aload_n 0, 1) := by decide +kernel
theorem dX7_passOn_3 : decode cX7_passOn 3 = .ok (.getfield 49, 3) := by decide +kernel
theorem dX7_passOn_6 : decode cX7_passOn 6 = .ok (.iload_n 1, 1) := by decide +kernel
theorem dX7_passOn_7 : decode cX7_passOn 7 = .ok (.iaload, 1) := by decide +kernel
theorem dX7_passOn_8 : decode cX7_passOn 8 = .ok (.invokevirtual 162, 3) := by decide +kernel
theorem dX7_passOn_11 : decode cX7_passOn 11 = .ok (.istore_n 3, 1) := by decide +kernel
theorem dX7_passOn_12 : decode cX7_passOn 12 = .ok (.iconst 0, 1) := by decide +kernel
theorem dX7_passOn_13 : decode cX7_passOn 13 = .ok (.istore 4, 2) := by decide +kernel
theorem dX7_passOn_15 : decode cX7_passOn 15 = .ok (.iload 4, 2) := by decide +kernel
theorem dX7_passOn_17 : decode cX7_passOn 17 = .ok (.aload_n 0, 1) := by decide +kernel
theorem dX7_passOn_18 : decode cX7_passOn 18 = .ok (.getfield 93, 3) := by decide +kernel
theorem dX7_passOn_21 : decode cX7_passOn 21 = .ok (.if_icmp .ge 62, 3) := by decide +kernel
theorem dX7_passOn_24 : decode cX7_passOn 24 = .ok (.aload_n 0, 1) := by decide +kernel
theorem dX7_passOn_25 : decode cX7_passOn 25 = .ok (.getfield 153, 3) := by decide +kernel
theorem dX7_passOn_28 : decode cX7_passOn 28 = .ok (.ifCond .ne 8, 3) := by decide +kernel
theorem dX7_passOn_31 : decode cX7_passOn 31 = .ok (.iload 4, 2) := by decide +kernel
theorem dX7_passOn_33 : decode cX7_passOn 33 = .ok (.goto 12, 3) := by decide +kernel
theorem dX7_passOn_36 : decode cX7_passOn 36 = .ok (.aload_n 0, 1) := by decide +kernel
theorem dX7_passOn_37 : decode cX7_passOn 37 = .ok (.getfield 93, 3) := by decide +kernel
theorem dX7_passOn_40 : decode cX7_passOn 40 = .ok (.iconst 1, 1) := by decide +kernel
theorem dX7_passOn_41 : decode cX7_passOn 41 = .ok (.isub, 1) := by decide +kernel
theorem dX7_passOn_42 : decode cX7_passOn 42 = .ok (.iload 4, 2) := by decide +kernel
theorem dX7_passOn_44 : decode cX7_passOn 44 = .ok (.isub, 1) := by decide +kernel
theorem dX7_passOn_45 : decode cX7_passOn 45 = .ok (.istore 5, 2) := by decide +kernel
theorem dX7_passOn_47 : decode cX7_passOn 47 = .ok (.aload_n 0, 1) := by decide +kernel
theorem dX7_passOn_48 : decode cX7_passOn 48 = .ok (.getfield 46, 3) := by decide +kernel
theorem dX7_passOn_51 : decode cX7_passOn 51 = .ok (.iload 5, 2) := by decide +kernel
theorem dX7_passOn_53 : decode cX7_passOn 53 = .ok (.iaload, 1) := by decide +kernel
theorem dX7_passOn_54 : decode cX7_passOn 54 = .ok (.iload_n 1, 1) := by decide +kernel
theorem dX7_passOn_55 : decode cX7_passOn 55 = .ok (.if_icmp .ne 22, 3) := by decide +kernel
theorem dX7_passOn_58 : decode cX7_passOn 58 = .ok (.aload_n 0, 1) := by decide +kernel
theorem dX7_passOn_59 : decode cX7_passOn 59 = .ok (.getfield 46, 3) := by decide +kernel
theorem dX7_passOn_62 : decode cX7_passOn 62 = .ok (.iload 5, 2) := by decide +kernel
theorem dX7_passOn_64 : decode cX7_passOn 64 = .ok (.iload_n 3, 1) := by decide +kernel
theorem dX7_passOn_65 : decode cX7_passOn 65 = .ok (.ifCond .le 7, 3) := by decide +kernel
theorem dX7_passOn_68 : decode cX7_passOn 68 = .ok (.iload_n 1, 1) := by decide +kernel
theorem dX7_passOn_69 : decode cX7_passOn 69 = .ok (.goto 4, 3) := by decide +kernel
theorem dX7_passOn_72 : decode cX7_passOn 72 = .ok (.iload_n 2, 1) := by decide +kernel
theorem dX7_passOn_73 : decode cX7_passOn 73 = .ok (.iastore, 1) := by decide +kernel
theorem dX7_passOn_74 : decode cX7_passOn 74 = .ok (.iinc 3 (-1), 3) := by decide +kernel
theorem dX7_passOn_77 : decode cX7_passOn 77 = .ok (.iinc 4 1, 3) := by decide +kernel
theorem dX7_passOn_80 : decode cX7_passOn 80 = .ok (.goto (-65), 3) := by decide +kernel
theorem dX7_passOn_83 : decode cX7_passOn 83 = .ok (.return_, 1) := by decide +kernel
theorem dX7_goNight_0 : decode cX7_goNight 0 = .ok (.iconst 0, 1) := by decide +kernel
theorem dX7_goNight_1 : decode cX7_goNight 1 = .ok (.istore_n 2, 1) := by decide +kernel
theorem dX7_goNight_2 : decode cX7_goNight 2 = .ok (.iload_n 2, 1) := by decide +kernel
theorem dX7_goNight_3 : decode cX7_goNight 3 = .ok (.aload_n 0, 1) := by decide +kernel
theorem dX7_goNight_4 : decode cX7_goNight 4 = .ok (.getfield 93, 3) := by decide +kernel
theorem dX7_goNight_7 : decode cX7_goNight 7 = .ok (.if_icmp .ge 41, 3) := by decide +kernel
theorem dX7_goNight_10 : decode cX7_goNight 10 = .ok (.aload_n 0, 1) := by decide +kernel
theorem dX7_goNight_11 : decode cX7_goNight 11 = .ok (.getfield 46, 3) := by decide +kernel
theorem dX7_goNight_14 : decode cX7_goNight 14 = .ok (.iload_n 2, 1) := by decide +kernel
theorem dX7_goNight_15 : decode cX7_goNight 15 = .ok (.aload_n 0, 1) := by decide +kernel
theorem dX7_goNight_16 : decode cX7_goNight 16 = .ok (.getfield 46, 3) := by decide +kernel
theorem dX7_goNight_19 : decode cX7_goNight 19 = .ok (.iload_n 2, 1) := by decide +kernel
theorem dX7_goNight_20 : decode cX7_goNight 20 = .ok (.iaload, 1) := by decide +kernel
theorem dX7_goNight_21 : decode cX7_goNight 21 = .ok (.aload_n 0, 1) := by decide +kernel
theorem dX7_goNight_22 : decode cX7_goNight 22 = .ok (.getfield 86, 3) := by decide +kernel
theorem dX7_goNight_25 : decode cX7_goNight 25 = .ok (.if_icmp .ne 10, 3) := by decide +kernel
theorem dX7_goNight_28 : decode cX7_goNight 28 = .ok (.aload_n 0, 1) := by decide +kernel
theorem dX7_goNight_29 : decode cX7_goNight 29 = .ok (.getfield 179, 3) := by decide +kernel
theorem dX7_goNight_32 : decode cX7_goNight 32 = .ok (.goto 9, 3) := by decide +kernel
theorem dX7_goNight_35 : decode cX7_goNight 35 = .ok (.aload_n 0, 1) := by decide +kernel
theorem dX7_goNight_36 : decode cX7_goNight 36 = .ok (.getfield 46, 3) := by decide +kernel
theorem dX7_goNight_39 : decode cX7_goNight 39 = .ok (.iload_n 2, 1) := by decide +kernel
theorem dX7_goNight_40 : decode cX7_goNight 40 = .ok (.iaload, 1) := by decide +kernel
theorem dX7_goNight_41 : decode cX7_goNight 41 = .ok (.iastore, 1) := by decide +kernel
theorem dX7_goNight_42 : decode cX7_goNight 42 = .ok (.iinc 2 1, 3) := by decide +kernel
theorem dX7_goNight_45 : decode cX7_goNight 45 = .ok (.goto (-43), 3) := by decide +kernel
theorem dX7_goNight_48 : decode cX7_goNight 48 = .ok (.iconst 0, 1) := by decide +kernel
theorem dX7_goNight_49 : decode cX7_goNight 49 = .ok (.istore_n 2, 1) := by decide +kernel
theorem dX7_goNight_50 : decode cX7_goNight 50 = .ok (.iload_n 2, 1) := by decide +kernel
theorem dX7_goNight_51 : decode cX7_goNight 51 = .ok (.aload_n 0, 1) := by decide +kernel
theorem dX7_goNight_52 : decode cX7_goNight 52 = .ok (.getfield 86, 3) := by decide +kernel
theorem dX7_goNight_55 : decode cX7_goNight 55 = .ok (.if_icmp .ge 51, 3) := by decide +kernel
theorem dX7_goNight_58 : decode cX7_goNight 58 = .ok (.aload_n 0, 1) := by decide +kernel
theorem dX7_goNight_59 : decode cX7_goNight 59 = .ok (.getfield 49, 3) := by decide +kernel
theorem dX7_goNight_62 : decode cX7_goNight 62 = .ok (.iload_n 2, 1) := by decide +kernel
theorem dX7_goNight_63 : decode cX7_goNight 63 = .ok (.iaload, 1) := by decide +kernel
theorem dX7_goNight_64 : decode cX7_goNight 64 = .ok (.aload_n 0, 1) := by decide +kernel
theorem dX7_goNight_65 : decode cX7_goNight 65 = .ok (.getfield 19, 3) := by decide +kernel
theorem dX7_goNight_68 : decode cX7_goNight 68 = .ok (.iload_n 1, 1) := by decide +kernel
theorem dX7_goNight_69 : decode cX7_goNight 69 = .ok (.iaload, 1) := by decide +kernel
theorem dX7_goNight_70 : decode cX7_goNight 70 = .ok (.iadd, 1) := by decide +kernel
theorem dX7_goNight_71 : decode cX7_goNight 71 = .ok (.iconst 2, 1) := by decide +kernel
theorem dX7_goNight_72 : decode cX7_goNight 72 = .ok (.isub, 1) := by decide +kernel
theorem dX7_goNight_73 : decode cX7_goNight 73 = .ok (.istore_n 3, 1) := by decide +kernel
theorem dX7_goNight_74 : decode cX7_goNight 74 = .ok (.aload_n 0, 1) := by decide +kernel
theorem dX7_goNight_75 : decode cX7_goNight 75 = .ok (.getfield 49, 3) := by decide +kernel
theorem dX7_goNight_78 : decode cX7_goNight 78 = .ok (.iload_n 2, 1) := by decide +kernel
theorem dX7_goNight_79 : decode cX7_goNight 79 = .ok (.iload_n 3, 1) := by decide +kernel
theorem dX7_goNight_80 : decode cX7_goNight 80 = .ok (.ifCond .ge 7, 3) := by decide +kernel
theorem dX7_goNight_83 : decode cX7_goNight 83 = .ok (.iconst 0, 1) := by decide +kernel
theorem dX7_goNight_84 : decode cX7_goNight 84 = .ok (.goto 15, 3) := by decide +kernel
theorem dX7_goNight_87 : decode cX7_goNight 87 = .ok (.iload_n 3, 1) := by decide +kernel
theorem dX7_goNight_88 : decode cX7_goNight 88 = .ok (.bipush 9, 2) := by decide +kernel
theorem dX7_goNight_90 : decode cX7_goNight 90 = .ok (.if_icmp .le 8, 3) := by decide +kernel
theorem dX7_goNight_93 : decode cX7_goNight 93 = .ok (.bipush 9, 2) := by decide +kernel
theorem dX7_goNight_95 : decode cX7_goNight 95 = .ok (.goto 4, 3) := by decide +kernel
theorem dX7_goNight_98 : decode cX7_goNight 98 = .ok (.iload_n 3, 1) := by decide +kernel
theorem dX7_goNight_99 : decode cX7_goNight 99 = .ok (.iastore, 1) := by decide +kernel
theorem dX7_goNight_100 : decode cX7_goNight 100 = .ok (.iinc 2 1, 3) := by decide +kernel
theorem dX7_goNight_103 : decode cX7_goNight 103 = .ok (.goto (-53), 3) := by decide +kernel
theorem dX7_goNight_106 : decode cX7_goNight 106 = .ok (.aload_n 0, 1) := by decide +kernel
theorem dX7_goNight_107 : decode cX7_goNight 107 = .ok (.aload_n 0, 1) := by decide +kernel
theorem dX7_goNight_108 : decode cX7_goNight 108 = .ok (.getfield 16, 3) := by decide +kernel
theorem dX7_goNight_111 : decode cX7_goNight 111 = .ok (.iload_n 1, 1) := by decide +kernel
theorem dX7_goNight_112 : decode cX7_goNight 112 = .ok (.iaload, 1) := by decide +kernel
theorem dX7_goNight_113 : decode cX7_goNight 113 = .ok (.ifCond .ne 12, 3) := by decide +kernel
theorem dX7_goNight_116 : decode cX7_goNight 116 = .ok (.aload_n 0, 1) := by decide +kernel
theorem dX7_goNight_117 : decode cX7_goNight 117 = .ok (.getfield 86, 3) := by decide +kernel
theorem dX7_goNight_120 : decode cX7_goNight 120 = .ok (.iconst 1, 1) := by decide +kernel
theorem dX7_goNight_121 : decode cX7_goNight 121 = .ok (.isub, 1) := by decide +kernel
theorem dX7_goNight_122 : decode cX7_goNight 122 = .ok (.goto 4, 3) := by decide +kernel
theorem dX7_goNight_125 : decode cX7_goNight 125 = .ok (.iconst 0, 1) := by decide +kernel
theorem dX7_goNight_126 : decode cX7_goNight 126 = .ok (.putfield 179, 3) := by decide +kernel
theorem dX7_goNight_129 : decode cX7_goNight 129 = .ok (.iconst 0, 1) := by decide +kernel
theorem dX7_goNight_130 : decode cX7_goNight 130 = .ok (.istore_n 2, 1) := by decide +kernel
theorem dX7_goNight_131 : decode cX7_goNight 131 = .ok (.iload_n 2, 1) := by decide +kernel
theorem dX7_goNight_132 : decode cX7_goNight 132 = .ok (.aload_n 0, 1) := by decide +kernel
theorem dX7_goNight_133 : decode cX7_goNight 133 = .ok (.getfield 86, 3) := by decide +kernel
theorem dX7_goNight_136 : decode cX7_goNight 136 = .ok (.if_icmp .ge 73, 3) := by decide +kernel
theorem dX7_goNight_139 : decode cX7_goNight 139 = .ok (.aload_n 0, 1) := by decide +kernel
theorem dX7_goNight_140 : decode cX7_goNight 140 = .ok (.getfield 16, 3) := by decide +kernel
theorem dX7_goNight_143 : decode cX7_goNight 143 = .ok (.iload_n 1, 1) := by decide +kernel
theorem dX7_goNight_144 : decode cX7_goNight 144 = .ok (.iaload, 1) := by decide +kernel
theorem dX7_goNight_145 : decode cX7_goNight 145 = .ok (.ifCond .ne 7, 3) := by decide +kernel
theorem dX7_goNight_148 : decode cX7_goNight 148 = .ok (.iload_n 2, 1) := by decide +kernel
theorem dX7_goNight_149 : decode cX7_goNight 149 = .ok (.goto 11, 3) := by decide +kernel
theorem dX7_goNight_152 : decode cX7_goNight 152 = .ok (.aload_n 0, 1) := by decide +kernel
theorem dX7_goNight_153 : decode cX7_goNight 153 = .ok (.getfield 86, 3) := by decide +kernel
theorem dX7_goNight_156 : decode cX7_goNight 156 = .ok (.iconst 1, 1) := by decide +kernel
theorem dX7_goNight_157 : decode cX7_goNight 157 = .ok (.isub, 1) := by decide +kernel
theorem dX7_goNight_158 : decode cX7_goNight 158 = .ok (.iload_n 2, 1) := by decide +kernel
theorem dX7_goNight_159 : decode cX7_goNight 159 = .ok (.isub, 1) := by decide +kernel
theorem dX7_goNight_160 : decode cX7_goNight 160 = .ok (.istore_n 3, 1) := by decide +kernel
theorem dX7_goNight_161 : decode cX7_goNight 161 = .ok (.aload_n 0, 1) := by decide +kernel
theorem dX7_goNight_162 : decode cX7_goNight 162 = .ok (.getfield 16, 3) := by decide +kernel
theorem dX7_goNight_165 : decode cX7_goNight 165 = .ok (.iload_n 1, 1) := by decide +kernel
theorem dX7_goNight_166 : decode cX7_goNight 166 = .ok (.iaload, 1) := by decide +kernel
theorem dX7_goNight_167 : decode cX7_goNight 167 = .ok (.ifCond .ne 9, 3) := by decide +kernel
theorem dX7_goNight_170 : decode cX7_goNight 170 = .ok (.iload_n 3, 1) := by decide +kernel
theorem dX7_goNight_171 : decode cX7_goNight 171 = .ok (.iconst 1, 1) := by decide +kernel
theorem dX7_goNight_172 : decode cX7_goNight 172 = .ok (.iadd, 1) := by decide +kernel
theorem dX7_goNight_173 : decode cX7_goNight 173 = .ok (.goto 6, 3) := by decide +kernel
theorem dX7_goNight_176 : decode cX7_goNight 176 = .ok (.iload_n 3, 1) := by decide +kernel
theorem dX7_goNight_177 : decode cX7_goNight 177 = .ok (.iconst 1, 1) := by decide +kernel
theorem dX7_goNight_178 : decode cX7_goNight 178 = .ok (.isub, 1) := by decide +kernel
theorem dX7_goNight_179 : decode cX7_goNight 179 = .ok (.istore 4, 2) := by decide +kernel
theorem dX7_goNight_181 : decode cX7_goNight 181 = .ok (.aload_n 0, 1) := by decide +kernel
theorem dX7_goNight_182 : decode cX7_goNight 182 = .ok (.iload_n 3, 1) := by decide +kernel
theorem dX7_goNight_183 : decode cX7_goNight 183 = .ok (.iload_n 3, 1) := by decide +kernel
theorem dX7_goNight_184 : decode cX7_goNight 184 = .ok (.aload_n 0, 1) := by decide +kernel
theorem dX7_goNight_185 : decode cX7_goNight 185 = .ok (.getfield 179, 3) := by decide +kernel
theorem dX7_goNight_188 : decode cX7_goNight 188 = .ok (.if_icmp .ne 10, 3) := by decide +kernel
theorem dX7_goNight_191 : decode cX7_goNight 191 = .ok (.aload_n 0, 1) := by decide +kernel
theorem dX7_goNight_192 : decode cX7_goNight 192 = .ok (.getfield 86, 3) := by decide +kernel
theorem dX7_goNight_195 : decode cX7_goNight 195 = .ok (.goto 5, 3) := by decide +kernel
theorem dX7_goNight_198 : decode cX7_goNight 198 = .ok (.iload 4, 2) := by decide +kernel
theorem dX7_goNight_200 : decode cX7_goNight 200 = .ok (.invokevirtual 182, 3) := by decide +kernel
theorem dX7_goNight_203 : decode cX7_goNight 203 = .ok (.iinc 2 1, 3) := by decide +kernel
theorem dX7_goNight_206 : decode cX7_goNight 206 = .ok (.goto (-75), 3) := by decide +kernel
theorem dX7_goNight_209 : decode cX7_goNight 209 = .ok (.return_, 1) := by decide +kernel
theorem dX7_goNights_0 : decode cX7_goNights 0 = .ok (.aload_n 0, 1) := by decide +kernel
theorem dX7_goNights_1 : decode cX7_goNights 1 = .ok (.invokevirtual 186, 3) := by decide +kernel
theorem dX7_goNights_4 : decode cX7_goNights 4 = .ok (.iconst 0, 1) := by decide +kernel
theorem dX7_goNights_5 : decode cX7_goNights 5 = .ok (.istore_n 2, 1) := by decide +kernel
theorem dX7_goNights_6 : decode cX7_goNights 6 = .ok (.iload_n 2, 1) := by decide +kernel
theorem dX7_goNights_7 : decode cX7_goNights 7 = .ok (.iload_n 1, 1) := by decide +kernel
theorem dX7_goNights_8 : decode cX7_goNights 8 = .ok (.if_icmp .ge 14, 3) := by decide +kernel
theorem dX7_goNights_11 : decode cX7_goNights 11 = .ok (.aload_n 0, 1) := by decide +kernel
theorem dX7_goNights_12 : decode cX7_goNights 12 = .ok (.iload_n 2, 1) := by decide +kernel
theorem dX7_goNights_13 : decode cX7_goNights 13 = .ok (.invokevirtual 189, 3) := by decide +kernel
theorem dX7_goNights_16 : decode cX7_goNights 16 = .ok (.iinc 2 1, 3) := by decide +kernel
theorem dX7_goNights_19 : decode cX7_goNights 19 = .ok (.goto (-13), 3) := by decide +kernel
theorem dX7_goNights_22 : decode cX7_goNights 22 = .ok (.return_, 1) := by decide +kernel
theorem dX7_inBeds_0 : decode cX7_inBeds 0 = .ok (.iconst 0, 1) := by decide +kernel
theorem dX7_inBeds_1 : decode cX7_inBeds 1 = .ok (.istore_n 2, 1) := by decide +kernel
theorem dX7_inBeds_2 : decode cX7_inBeds 2 = .ok (.iconst 0, 1) := by decide +kernel
theorem dX7_inBeds_3 : decode cX7_inBeds 3 = .ok (.istore_n 3, 1) := by decide +kernel
theorem dX7_inBeds_4 : decode cX7_inBeds 4 = .ok (.iload_n 3, 1) := by decide +kernel
theorem dX7_inBeds_5 : decode cX7_inBeds 5 = .ok (.aload_n 0, 1) := by decide +kernel
theorem dX7_inBeds_6 : decode cX7_inBeds 6 = .ok (.getfield 93, 3) := by decide +kernel
theorem dX7_inBeds_9 : decode cX7_inBeds 9 = .ok (.if_icmp .ge 29, 3) := by decide +kernel
theorem dX7_inBeds_12 : decode cX7_inBeds 12 = .ok (.iload_n 2, 1) := by decide +kernel
theorem dX7_inBeds_13 : decode cX7_inBeds 13 = .ok (.aload_n 0, 1) := by decide +kernel
theorem dX7_inBeds_14 : decode cX7_inBeds 14 = .ok (.getfield 46, 3) := by decide +kernel
theorem dX7_inBeds_17 : decode cX7_inBeds 17 = .ok (.iload_n 3, 1) := by decide +kernel
theorem dX7_inBeds_18 : decode cX7_inBeds 18 = .ok (.iaload, 1) := by decide +kernel
theorem dX7_inBeds_19 : decode cX7_inBeds 19 = .ok (.iload_n 1, 1) := by decide +kernel
theorem dX7_inBeds_20 : decode cX7_inBeds 20 = .ok (.if_icmp .ne 9, 3) := by decide +kernel
theorem dX7_inBeds_23 : decode cX7_inBeds 23 = .ok (.iconst 1, 1) := by decide +kernel
theorem dX7_inBeds_24 : decode cX7_inBeds 24 = .ok (.iload_n 3, 1) := by decide +kernel
theorem dX7_inBeds_25 : decode cX7_inBeds 25 = .ok (.ishl, 1) := by decide +kernel
theorem dX7_inBeds_26 : decode cX7_inBeds 26 = .ok (.goto 4, 3) := by decide +kernel
theorem dX7_inBeds_29 : decode cX7_inBeds 29 = .ok (.iconst 0, 1) := by decide +kernel
theorem dX7_inBeds_30 : decode cX7_inBeds 30 = .ok (.ior, 1) := by decide +kernel
theorem dX7_inBeds_31 : decode cX7_inBeds 31 = .ok (.istore_n 2, 1) := by decide +kernel
theorem dX7_inBeds_32 : decode cX7_inBeds 32 = .ok (.iinc 3 1, 3) := by decide +kernel
theorem dX7_inBeds_35 : decode cX7_inBeds 35 = .ok (.goto (-31), 3) := by decide +kernel
theorem dX7_inBeds_38 : decode cX7_inBeds 38 = .ok (.iload_n 2, 1) := by decide +kernel
theorem dX7_inBeds_39 : decode cX7_inBeds 39 = .ok (.ireturn, 1) := by decide +kernel
theorem dX7_where_0 : decode cX7_where 0 = .ok (.aload_n 0, 1) := by decide +kernel
theorem dX7_where_1 : decode cX7_where 1 = .ok (.iload_n 1, 1) := by decide +kernel
theorem dX7_where_2 : decode cX7_where 2 = .ok (.invokevirtual 165, 3) := by decide +kernel
theorem dX7_where_5 : decode cX7_where 5 = .ok (.ifCond .eq 5, 3) := by decide +kernel
theorem dX7_where_8 : decode cX7_where 8 = .ok (.iconst (-1), 1) := by decide +kernel
theorem dX7_where_9 : decode cX7_where 9 = .ok (.ireturn, 1) := by decide +kernel
theorem dX7_where_10 : decode cX7_where 10 = .ok (.iload_n 2, 1) := by decide +kernel
theorem dX7_where_11 : decode cX7_where 11 = .ok (.i2l, 1) := by decide +kernel
theorem dX7_where_12 : decode cX7_where 12 = .ok (.lconst 0, 1) := by decide +kernel
theorem dX7_where_13 : decode cX7_where 13 = .ok (.aload_n 0, 1) := by decide +kernel
theorem dX7_where_14 : decode cX7_where 14 = .ok (.getfield 96, 3) := by decide +kernel
theorem dX7_where_17 : decode cX7_where 17 = .ok (.i2l, 1) := by decide +kernel
theorem dX7_where_18 : decode cX7_where 18 = .ok (.invokestatic 89, 3) := by decide +kernel
theorem dX7_where_21 : decode cX7_where 21 = .ok (.ifCond .ne 6, 3) := by decide +kernel
theorem dX7_where_24 : decode cX7_where 24 = .ok (.bipush (-2), 2) := by decide +kernel
theorem dX7_where_26 : decode cX7_where 26 = .ok (.ireturn, 1) := by decide +kernel
theorem dX7_where_27 : decode cX7_where 27 = .ok (.aload_n 0, 1) := by decide +kernel
theorem dX7_where_28 : decode cX7_where 28 = .ok (.iload_n 2, 1) := by decide +kernel
theorem dX7_where_29 : decode cX7_where 29 = .ok (.invokevirtual 193, 3) := by decide +kernel
theorem dX7_where_32 : decode cX7_where 32 = .ok (.aload_n 0, 1) := by decide +kernel
theorem dX7_where_33 : decode cX7_where 33 = .ok (.getfield 46, 3) := by decide +kernel
theorem dX7_where_36 : decode cX7_where 36 = .ok (.iload_n 1, 1) := by decide +kernel
theorem dX7_where_37 : decode cX7_where 37 = .ok (.iaload, 1) := by decide +kernel
theorem dX7_where_38 : decode cX7_where 38 = .ok (.ireturn, 1) := by decide +kernel
theorem dX7_deep_0 : decode cX7_deep 0 = .ok (.aload_n 0, 1) := by decide +kernel
theorem dX7_deep_1 : decode cX7_deep 1 = .ok (.iload_n 1, 1) := by decide +kernel
theorem dX7_deep_2 : decode cX7_deep 2 = .ok (.invokevirtual 159, 3) := by decide +kernel
theorem dX7_deep_5 : decode cX7_deep 5 = .ok (.ifCond .eq 5, 3) := by decide +kernel
theorem dX7_deep_8 : decode cX7_deep 8 = .ok (.iconst (-1), 1) := by decide +kernel
theorem dX7_deep_9 : decode cX7_deep 9 = .ok (.ireturn, 1) := by decide +kernel
theorem dX7_deep_10 : decode cX7_deep 10 = .ok (.iload_n 2, 1) := by decide +kernel
theorem dX7_deep_11 : decode cX7_deep 11 = .ok (.i2l, 1) := by decide +kernel
theorem dX7_deep_12 : decode cX7_deep 12 = .ok (.lconst 0, 1) := by decide +kernel
theorem dX7_deep_13 : decode cX7_deep 13 = .ok (.aload_n 0, 1) := by decide +kernel
theorem dX7_deep_14 : decode cX7_deep 14 = .ok (.getfield 96, 3) := by decide +kernel
theorem dX7_deep_17 : decode cX7_deep 17 = .ok (.i2l, 1) := by decide +kernel
theorem dX7_deep_18 : decode cX7_deep 18 = .ok (.invokestatic 89, 3) := by decide +kernel
theorem dX7_deep_21 : decode cX7_deep 21 = .ok (.ifCond .ne 6, 3) := by decide +kernel
theorem dX7_deep_24 : decode cX7_deep 24 = .ok (.bipush (-2), 2) := by decide +kernel
theorem dX7_deep_26 : decode cX7_deep 26 = .ok (.ireturn, 1) := by decide +kernel
theorem dX7_deep_27 : decode cX7_deep 27 = .ok (.aload_n 0, 1) := by decide +kernel
theorem dX7_deep_28 : decode cX7_deep 28 = .ok (.iload_n 2, 1) := by decide +kernel
theorem dX7_deep_29 : decode cX7_deep 29 = .ok (.invokevirtual 193, 3) := by decide +kernel
theorem dX7_deep_32 : decode cX7_deep 32 = .ok (.aload_n 0, 1) := by decide +kernel
theorem dX7_deep_33 : decode cX7_deep 33 = .ok (.getfield 49, 3) := by decide +kernel
theorem dX7_deep_36 : decode cX7_deep 36 = .ok (.iload_n 1, 1) := by decide +kernel
theorem dX7_deep_37 : decode cX7_deep 37 = .ok (.iaload, 1) := by decide +kernel
theorem dX7_deep_38 : decode cX7_deep 38 = .ok (.ireturn, 1) := by decide +kernel
theorem dX7_beds_0 : decode cX7_beds 0 = .ok (.aload_n 0, 1) := by decide +kernel
theorem dX7_beds_1 : decode cX7_beds 1 = .ok (.getfield 86, 3) := by decide +kernel
theorem dX7_beds_4 : decode cX7_beds 4 = .ok (.ifCond .eq 17, 3) := by decide +kernel
theorem dX7_beds_7 : decode cX7_beds 7 = .ok (.iload_n 1, 1) := by decide +kernel
theorem dX7_beds_8 : decode cX7_beds 8 = .ok (.i2l, 1) := by decide +kernel
theorem dX7_beds_9 : decode cX7_beds 9 = .ok (.lconst 0, 1) := by decide +kernel
theorem dX7_beds_10 : decode cX7_beds 10 = .ok (.aload_n 0, 1) := by decide +kernel
theorem dX7_beds_11 : decode cX7_beds 11 = .ok (.getfield 86, 3) := by decide +kernel
theorem dX7_beds_14 : decode cX7_beds 14 = .ok (.i2l, 1) := by decide +kernel
theorem dX7_beds_15 : decode cX7_beds 15 = .ok (.invokestatic 89, 3) := by decide +kernel
theorem dX7_beds_18 : decode cX7_beds 18 = .ok (.ifCond .ne 5, 3) := by decide +kernel
theorem dX7_beds_21 : decode cX7_beds 21 = .ok (.iconst (-1), 1) := by decide +kernel
theorem dX7_beds_22 : decode cX7_beds 22 = .ok (.ireturn, 1) := by decide +kernel
theorem dX7_beds_23 : decode cX7_beds 23 = .ok (.iload_n 2, 1) := by decide +kernel
theorem dX7_beds_24 : decode cX7_beds 24 = .ok (.i2l, 1) := by decide +kernel
theorem dX7_beds_25 : decode cX7_beds 25 = .ok (.lconst 0, 1) := by decide +kernel
theorem dX7_beds_26 : decode cX7_beds 26 = .ok (.aload_n 0, 1) := by decide +kernel
theorem dX7_beds_27 : decode cX7_beds 27 = .ok (.getfield 96, 3) := by decide +kernel
theorem dX7_beds_30 : decode cX7_beds 30 = .ok (.i2l, 1) := by decide +kernel
theorem dX7_beds_31 : decode cX7_beds 31 = .ok (.invokestatic 89, 3) := by decide +kernel
theorem dX7_beds_34 : decode cX7_beds 34 = .ok (.ifCond .ne 6, 3) := by decide +kernel
theorem dX7_beds_37 : decode cX7_beds 37 = .ok (.bipush (-2), 2) := by decide +kernel
theorem dX7_beds_39 : decode cX7_beds 39 = .ok (.ireturn, 1) := by decide +kernel
theorem dX7_beds_40 : decode cX7_beds 40 = .ok (.aload_n 0, 1) := by decide +kernel
theorem dX7_beds_41 : decode cX7_beds 41 = .ok (.iload_n 2, 1) := by decide +kernel
theorem dX7_beds_42 : decode cX7_beds 42 = .ok (.invokevirtual 193, 3) := by decide +kernel
theorem dX7_beds_45 : decode cX7_beds 45 = .ok (.aload_n 0, 1) := by decide +kernel
theorem dX7_beds_46 : decode cX7_beds 46 = .ok (.iload_n 1, 1) := by decide +kernel
theorem dX7_beds_47 : decode cX7_beds 47 = .ok (.invokevirtual 196, 3) := by decide +kernel
theorem dX7_beds_50 : decode cX7_beds 50 = .ok (.ireturn, 1) := by decide +kernel
theorem dX7_list_0 : decode cX7_list 0 = .ok (.iload_n 2, 1) := by decide +kernel
theorem dX7_list_1 : decode cX7_list 1 = .ok (.invokestatic 137, 3) := by decide +kernel
theorem dX7_list_4 : decode cX7_list 4 = .ok (.ifCond .eq 9, 3) := by decide +kernel
theorem dX7_list_7 : decode cX7_list 7 = .ok (.aload_n 0, 1) := by decide +kernel
theorem dX7_list_8 : decode cX7_list 8 = .ok (.iconst (-1), 1) := by decide +kernel
theorem dX7_list_9 : decode cX7_list 9 = .ok (.invokevirtual 141, 3) := by decide +kernel
theorem dX7_list_12 : decode cX7_list 12 = .ok (.ireturn, 1) := by decide +kernel
theorem dX7_list_13 : decode cX7_list 13 = .ok (.iload_n 3, 1) := by decide +kernel
theorem dX7_list_14 : decode cX7_list 14 = .ok (.i2l, 1) := by decide +kernel
theorem dX7_list_15 : decode cX7_list 15 = .ok (.lconst 0, 1) := by decide +kernel
theorem dX7_list_16 : decode cX7_list 16 = .ok (.ldc2_w 144, 3) := by decide +kernel
theorem dX7_list_19 : decode cX7_list 19 = .ok (.invokestatic 89, 3) := by decide +kernel
theorem dX7_list_22 : decode cX7_list 22 = .ok (.ifCond .ne 10, 3) := by decide +kernel
theorem dX7_list_25 : decode cX7_list 25 = .ok (.aload_n 0, 1) := by decide +kernel
theorem dX7_list_26 : decode cX7_list 26 = .ok (.bipush (-2), 2) := by decide +kernel
theorem dX7_list_28 : decode cX7_list 28 = .ok (.invokevirtual 141, 3) := by decide +kernel
theorem dX7_list_31 : decode cX7_list 31 = .ok (.ireturn, 1) := by decide +kernel
theorem dX7_list_32 : decode cX7_list 32 = .ok (.aload_n 0, 1) := by decide +kernel
theorem dX7_list_33 : decode cX7_list 33 = .ok (.getfield 86, 3) := by decide +kernel
theorem dX7_list_36 : decode cX7_list 36 = .ok (.ifCond .ne 10, 3) := by decide +kernel
theorem dX7_list_39 : decode cX7_list 39 = .ok (.aload_n 0, 1) := by decide +kernel
theorem dX7_list_40 : decode cX7_list 40 = .ok (.bipush (-3), 2) := by decide +kernel
theorem dX7_list_42 : decode cX7_list 42 = .ok (.invokevirtual 141, 3) := by decide +kernel
theorem dX7_list_45 : decode cX7_list 45 = .ok (.ireturn, 1) := by decide +kernel
theorem dX7_list_46 : decode cX7_list 46 = .ok (.iload_n 1, 1) := by decide +kernel
theorem dX7_list_47 : decode cX7_list 47 = .ok (.i2l, 1) := by decide +kernel
theorem dX7_list_48 : decode cX7_list 48 = .ok (.lconst 0, 1) := by decide +kernel
theorem dX7_list_49 : decode cX7_list 49 = .ok (.aload_n 0, 1) := by decide +kernel
theorem dX7_list_50 : decode cX7_list 50 = .ok (.getfield 96, 3) := by decide +kernel
theorem dX7_list_53 : decode cX7_list 53 = .ok (.i2l, 1) := by decide +kernel
theorem dX7_list_54 : decode cX7_list 54 = .ok (.invokestatic 89, 3) := by decide +kernel
theorem dX7_list_57 : decode cX7_list 57 = .ok (.ifCond .ne 10, 3) := by decide +kernel
theorem dX7_list_60 : decode cX7_list 60 = .ok (.aload_n 0, 1) := by decide +kernel
theorem dX7_list_61 : decode cX7_list 61 = .ok (.bipush (-2), 2) := by decide +kernel
theorem dX7_list_63 : decode cX7_list 63 = .ok (.invokevirtual 141, 3) := by decide +kernel
theorem dX7_list_66 : decode cX7_list 66 = .ok (.ireturn, 1) := by decide +kernel
theorem dX7_list_67 : decode cX7_list 67 = .ok (.aload_n 0, 1) := by decide +kernel
theorem dX7_list_68 : decode cX7_list 68 = .ok (.iload_n 2, 1) := by decide +kernel
theorem dX7_list_69 : decode cX7_list 69 = .ok (.iload_n 3, 1) := by decide +kernel
theorem dX7_list_70 : decode cX7_list 70 = .ok (.iload 4, 2) := by decide +kernel
theorem dX7_list_72 : decode cX7_list 72 = .ok (.iload 5, 2) := by decide +kernel
theorem dX7_list_74 : decode cX7_list 74 = .ok (.i2l, 1) := by decide +kernel
theorem dX7_list_75 : decode cX7_list 75 = .ok (.invokevirtual 146, 3) := by decide +kernel
theorem dX7_list_78 : decode cX7_list 78 = .ok (.istore 6, 2) := by decide +kernel
theorem dX7_list_80 : decode cX7_list 80 = .ok (.iload 6, 2) := by decide +kernel
theorem dX7_list_82 : decode cX7_list 82 = .ok (.ifCond .ge 6, 3) := by decide +kernel
theorem dX7_list_85 : decode cX7_list 85 = .ok (.iload 6, 2) := by decide +kernel
theorem dX7_list_87 : decode cX7_list 87 = .ok (.ireturn, 1) := by decide +kernel
theorem dX7_list_88 : decode cX7_list 88 = .ok (.iload 5, 2) := by decide +kernel
theorem dX7_list_90 : decode cX7_list 90 = .ok (.aload_n 0, 1) := by decide +kernel
theorem dX7_list_91 : decode cX7_list 91 = .ok (.getfield 93, 3) := by decide +kernel
theorem dX7_list_94 : decode cX7_list 94 = .ok (.if_icmp .le 10, 3) := by decide +kernel
theorem dX7_list_97 : decode cX7_list 97 = .ok (.aload_n 0, 1) := by decide +kernel
theorem dX7_list_98 : decode cX7_list 98 = .ok (.bipush (-2), 2) := by decide +kernel
theorem dX7_list_100 : decode cX7_list 100 = .ok (.invokevirtual 141, 3) := by decide +kernel
theorem dX7_list_103 : decode cX7_list 103 = .ok (.ireturn, 1) := by decide +kernel
theorem dX7_list_104 : decode cX7_list 104 = .ok (.aload_n 0, 1) := by decide +kernel
theorem dX7_list_105 : decode cX7_list 105 = .ok (.iload_n 1, 1) := by decide +kernel
theorem dX7_list_106 : decode cX7_list 106 = .ok (.invokevirtual 193, 3) := by decide +kernel
theorem dX7_list_109 : decode cX7_list 109 = .ok (.iconst 0, 1) := by decide +kernel
theorem dX7_list_110 : decode cX7_list 110 = .ok (.istore 7, 2) := by decide +kernel
theorem dX7_list_112 : decode cX7_list 112 = .ok (.iload 7, 2) := by decide +kernel
theorem dX7_list_114 : decode cX7_list 114 = .ok (.iload 5, 2) := by decide +kernel
theorem dX7_list_116 : decode cX7_list 116 = .ok (.if_icmp .ge 41, 3) := by decide +kernel
theorem dX7_list_119 : decode cX7_list 119 = .ok (.aload_n 0, 1) := by decide +kernel
theorem dX7_list_120 : decode cX7_list 120 = .ok (.getfield 67, 3) := by decide +kernel
theorem dX7_list_123 : decode cX7_list 123 = .ok (.bipush 60, 2) := by decide +kernel
theorem dX7_list_125 : decode cX7_list 125 = .ok (.iload_n 2, 1) := by decide +kernel
theorem dX7_list_126 : decode cX7_list 126 = .ok (.imul, 1) := by decide +kernel
theorem dX7_list_127 : decode cX7_list 127 = .ok (.iload 4, 2) := by decide +kernel
theorem dX7_list_129 : decode cX7_list 129 = .ok (.iadd, 1) := by decide +kernel
theorem dX7_list_130 : decode cX7_list 130 = .ok (.iload 7, 2) := by decide +kernel
theorem dX7_list_132 : decode cX7_list 132 = .ok (.iadd, 1) := by decide +kernel
theorem dX7_list_133 : decode cX7_list 133 = .ok (.iaload, 1) := by decide +kernel
theorem dX7_list_134 : decode cX7_list 134 = .ok (.aload_n 0, 1) := by decide +kernel
theorem dX7_list_135 : decode cX7_list 135 = .ok (.getfield 46, 3) := by decide +kernel
theorem dX7_list_138 : decode cX7_list 138 = .ok (.iload 7, 2) := by decide +kernel
theorem dX7_list_140 : decode cX7_list 140 = .ok (.iaload, 1) := by decide +kernel
theorem dX7_list_141 : decode cX7_list 141 = .ok (.if_icmp .eq 10, 3) := by decide +kernel
theorem dX7_list_144 : decode cX7_list 144 = .ok (.aload_n 0, 1) := by decide +kernel
end
section
theorem dX7_list_145 : decode cX7_list 145 = .ok (.iload 7, 2) := by decide +kernel
theorem dX7_list_147 : decode cX7_list 147 = .ok (.invokevirtual 141, 3) := by decide +kernel
theorem dX7_list_150 : decode cX7_list 150 = .ok (.ireturn, 1) := by decide +kernel
theorem dX7_list_151 : decode cX7_list 151 = .ok (.iinc 7 1, 3) := by decide +kernel
theorem dX7_list_154 : decode cX7_list 154 = .ok (.goto (-42), 3) := by decide +kernel
theorem dX7_list_157 : decode cX7_list 157 = .ok (.aload_n 0, 1) := by decide +kernel
theorem dX7_list_158 : decode cX7_list 158 = .ok (.bipush (-9), 2) := by decide +kernel
theorem dX7_list_160 : decode cX7_list 160 = .ok (.invokevirtual 141, 3) := by decide +kernel
theorem dX7_list_163 : decode cX7_list 163 = .ok (.ireturn, 1) := by decide +kernel
theorem dX7_noFamily_0 : decode cX7_noFamily 0 = .ok (.iconst 0, 1) := by decide +kernel
theorem dX7_noFamily_1 : decode cX7_noFamily 1 = .ok (.istore_n 2, 1) := by decide +kernel
theorem dX7_noFamily_2 : decode cX7_noFamily 2 = .ok (.iconst 0, 1) := by decide +kernel
theorem dX7_noFamily_3 : decode cX7_noFamily 3 = .ok (.istore_n 3, 1) := by decide +kernel
theorem dX7_noFamily_4 : decode cX7_noFamily 4 = .ok (.iload_n 3, 1) := by decide +kernel
theorem dX7_noFamily_5 : decode cX7_noFamily 5 = .ok (.aload_n 0, 1) := by decide +kernel
theorem dX7_noFamily_6 : decode cX7_noFamily 6 = .ok (.getfield 93, 3) := by decide +kernel
theorem dX7_noFamily_9 : decode cX7_noFamily 9 = .ok (.if_icmp .ge 29, 3) := by decide +kernel
theorem dX7_noFamily_12 : decode cX7_noFamily 12 = .ok (.iload_n 2, 1) := by decide +kernel
theorem dX7_noFamily_13 : decode cX7_noFamily 13 = .ok (.ifCond .ne 13, 3) := by decide +kernel
theorem dX7_noFamily_16 : decode cX7_noFamily 16 = .ok (.aload_n 0, 1) := by decide +kernel
theorem dX7_noFamily_17 : decode cX7_noFamily 17 = .ok (.getfield 22, 3) := by decide +kernel
theorem dX7_noFamily_20 : decode cX7_noFamily 20 = .ok (.iload_n 3, 1) := by decide +kernel
theorem dX7_noFamily_21 : decode cX7_noFamily 21 = .ok (.iaload, 1) := by decide +kernel
theorem dX7_noFamily_22 : decode cX7_noFamily 22 = .ok (.iload_n 1, 1) := by decide +kernel
theorem dX7_noFamily_23 : decode cX7_noFamily 23 = .ok (.if_icmp .ne 7, 3) := by decide +kernel
theorem dX7_noFamily_26 : decode cX7_noFamily 26 = .ok (.iconst 1, 1) := by decide +kernel
theorem dX7_noFamily_27 : decode cX7_noFamily 27 = .ok (.goto 4, 3) := by decide +kernel
theorem dX7_noFamily_30 : decode cX7_noFamily 30 = .ok (.iconst 0, 1) := by decide +kernel
theorem dX7_noFamily_31 : decode cX7_noFamily 31 = .ok (.istore_n 2, 1) := by decide +kernel
theorem dX7_noFamily_32 : decode cX7_noFamily 32 = .ok (.iinc 3 1, 3) := by decide +kernel
theorem dX7_noFamily_35 : decode cX7_noFamily 35 = .ok (.goto (-31), 3) := by decide +kernel
theorem dX7_noFamily_38 : decode cX7_noFamily 38 = .ok (.iload_n 2, 1) := by decide +kernel
theorem dX7_noFamily_39 : decode cX7_noFamily 39 = .ok (.ifCond .ne 7, 3) := by decide +kernel
theorem dX7_noFamily_42 : decode cX7_noFamily 42 = .ok (.iconst 1, 1) := by decide +kernel
theorem dX7_noFamily_43 : decode cX7_noFamily 43 = .ok (.goto 4, 3) := by decide +kernel
theorem dX7_noFamily_46 : decode cX7_noFamily 46 = .ok (.iconst 0, 1) := by decide +kernel
theorem dX7_noFamily_47 : decode cX7_noFamily 47 = .ok (.ireturn, 1) := by decide +kernel
theorem dX7_isTogether_0 : decode cX7_isTogether 0 = .ok (.iconst 1, 1) := by decide +kernel
theorem dX7_isTogether_1 : decode cX7_isTogether 1 = .ok (.istore_n 2, 1) := by decide +kernel
theorem dX7_isTogether_2 : decode cX7_isTogether 2 = .ok (.bipush (-9), 2) := by decide +kernel
theorem dX7_isTogether_4 : decode cX7_isTogether 4 = .ok (.istore_n 3, 1) := by decide +kernel
theorem dX7_isTogether_5 : decode cX7_isTogether 5 = .ok (.iconst 0, 1) := by decide +kernel
theorem dX7_isTogether_6 : decode cX7_isTogether 6 = .ok (.istore 4, 2) := by decide +kernel
theorem dX7_isTogether_8 : decode cX7_isTogether 8 = .ok (.iload 4, 2) := by decide +kernel
theorem dX7_isTogether_10 : decode cX7_isTogether 10 = .ok (.aload_n 0, 1) := by decide +kernel
theorem dX7_isTogether_11 : decode cX7_isTogether 11 = .ok (.getfield 93, 3) := by decide +kernel
theorem dX7_isTogether_14 : decode cX7_isTogether 14 = .ok (.if_icmp .ge 65, 3) := by decide +kernel
theorem dX7_isTogether_17 : decode cX7_isTogether 17 = .ok (.aload_n 0, 1) := by decide +kernel
theorem dX7_isTogether_18 : decode cX7_isTogether 18 = .ok (.getfield 22, 3) := by decide +kernel
theorem dX7_isTogether_21 : decode cX7_isTogether 21 = .ok (.iload 4, 2) := by decide +kernel
theorem dX7_isTogether_23 : decode cX7_isTogether 23 = .ok (.iaload, 1) := by decide +kernel
theorem dX7_isTogether_24 : decode cX7_isTogether 24 = .ok (.iload_n 1, 1) := by decide +kernel
theorem dX7_isTogether_25 : decode cX7_isTogether 25 = .ok (.if_icmp .ne 48, 3) := by decide +kernel
theorem dX7_isTogether_28 : decode cX7_isTogether 28 = .ok (.iload_n 3, 1) := by decide +kernel
theorem dX7_isTogether_29 : decode cX7_isTogether 29 = .ok (.ifCond .ge 13, 3) := by decide +kernel
theorem dX7_isTogether_32 : decode cX7_isTogether 32 = .ok (.aload_n 0, 1) := by decide +kernel
theorem dX7_isTogether_33 : decode cX7_isTogether 33 = .ok (.getfield 46, 3) := by decide +kernel
theorem dX7_isTogether_36 : decode cX7_isTogether 36 = .ok (.iload 4, 2) := by decide +kernel
theorem dX7_isTogether_38 : decode cX7_isTogether 38 = .ok (.iaload, 1) := by decide +kernel
theorem dX7_isTogether_39 : decode cX7_isTogether 39 = .ok (.goto 4, 3) := by decide +kernel
theorem dX7_isTogether_42 : decode cX7_isTogether 42 = .ok (.iload_n 3, 1) := by decide +kernel
theorem dX7_isTogether_43 : decode cX7_isTogether 43 = .ok (.istore_n 3, 1) := by decide +kernel
theorem dX7_isTogether_44 : decode cX7_isTogether 44 = .ok (.iload_n 2, 1) := by decide +kernel
theorem dX7_isTogether_45 : decode cX7_isTogether 45 = .ok (.ifCond .eq 26, 3) := by decide +kernel
theorem dX7_isTogether_48 : decode cX7_isTogether 48 = .ok (.aload_n 0, 1) := by decide +kernel
theorem dX7_isTogether_49 : decode cX7_isTogether 49 = .ok (.getfield 46, 3) := by decide +kernel
theorem dX7_isTogether_52 : decode cX7_isTogether 52 = .ok (.iload 4, 2) := by decide +kernel
theorem dX7_isTogether_54 : decode cX7_isTogether 54 = .ok (.iaload, 1) := by decide +kernel
theorem dX7_isTogether_55 : decode cX7_isTogether 55 = .ok (.iload_n 3, 1) := by decide +kernel
theorem dX7_isTogether_56 : decode cX7_isTogether 56 = .ok (.if_icmp .ne 15, 3) := by decide +kernel
theorem dX7_isTogether_59 : decode cX7_isTogether 59 = .ok (.iload_n 3, 1) := by decide +kernel
theorem dX7_isTogether_60 : decode cX7_isTogether 60 = .ok (.aload_n 0, 1) := by decide +kernel
theorem dX7_isTogether_61 : decode cX7_isTogether 61 = .ok (.getfield 86, 3) := by decide +kernel
theorem dX7_isTogether_64 : decode cX7_isTogether 64 = .ok (.if_icmp .ge 7, 3) := by decide +kernel
theorem dX7_isTogether_67 : decode cX7_isTogether 67 = .ok (.iconst 1, 1) := by decide +kernel
theorem dX7_isTogether_68 : decode cX7_isTogether 68 = .ok (.goto 4, 3) := by decide +kernel
theorem dX7_isTogether_71 : decode cX7_isTogether 71 = .ok (.iconst 0, 1) := by decide +kernel
theorem dX7_isTogether_72 : decode cX7_isTogether 72 = .ok (.istore_n 2, 1) := by decide +kernel
theorem dX7_isTogether_73 : decode cX7_isTogether 73 = .ok (.iinc 4 1, 3) := by decide +kernel
theorem dX7_isTogether_76 : decode cX7_isTogether 76 = .ok (.goto (-68), 3) := by decide +kernel
theorem dX7_isTogether_79 : decode cX7_isTogether 79 = .ok (.iload_n 2, 1) := by decide +kernel
theorem dX7_isTogether_80 : decode cX7_isTogether 80 = .ok (.ireturn, 1) := by decide +kernel
theorem dX7_meetsIn_0 : decode cX7_meetsIn 0 = .ok (.aload_n 0, 1) := by decide +kernel
theorem dX7_meetsIn_1 : decode cX7_meetsIn 1 = .ok (.invokevirtual 186, 3) := by decide +kernel
theorem dX7_meetsIn_4 : decode cX7_meetsIn 4 = .ok (.bipush (-9), 2) := by decide +kernel
theorem dX7_meetsIn_6 : decode cX7_meetsIn 6 = .ok (.istore_n 3, 1) := by decide +kernel
theorem dX7_meetsIn_7 : decode cX7_meetsIn 7 = .ok (.iconst 0, 1) := by decide +kernel
theorem dX7_meetsIn_8 : decode cX7_meetsIn 8 = .ok (.istore 4, 2) := by decide +kernel
theorem dX7_meetsIn_10 : decode cX7_meetsIn 10 = .ok (.iload 4, 2) := by decide +kernel
theorem dX7_meetsIn_12 : decode cX7_meetsIn 12 = .ok (.iload_n 2, 1) := by decide +kernel
theorem dX7_meetsIn_13 : decode cX7_meetsIn 13 = .ok (.if_icmp .ge 34, 3) := by decide +kernel
theorem dX7_meetsIn_16 : decode cX7_meetsIn 16 = .ok (.aload_n 0, 1) := by decide +kernel
theorem dX7_meetsIn_17 : decode cX7_meetsIn 17 = .ok (.iload 4, 2) := by decide +kernel
theorem dX7_meetsIn_19 : decode cX7_meetsIn 19 = .ok (.invokevirtual 189, 3) := by decide +kernel
theorem dX7_meetsIn_22 : decode cX7_meetsIn 22 = .ok (.iload_n 3, 1) := by decide +kernel
theorem dX7_meetsIn_23 : decode cX7_meetsIn 23 = .ok (.ifCond .ge 16, 3) := by decide +kernel
theorem dX7_meetsIn_26 : decode cX7_meetsIn 26 = .ok (.aload_n 0, 1) := by decide +kernel
theorem dX7_meetsIn_27 : decode cX7_meetsIn 27 = .ok (.iload_n 1, 1) := by decide +kernel
theorem dX7_meetsIn_28 : decode cX7_meetsIn 28 = .ok (.invokevirtual 199, 3) := by decide +kernel
theorem dX7_meetsIn_31 : decode cX7_meetsIn 31 = .ok (.ifCond .eq 8, 3) := by decide +kernel
theorem dX7_meetsIn_34 : decode cX7_meetsIn 34 = .ok (.iload 4, 2) := by decide +kernel
theorem dX7_meetsIn_36 : decode cX7_meetsIn 36 = .ok (.goto 4, 3) := by decide +kernel
theorem dX7_meetsIn_39 : decode cX7_meetsIn 39 = .ok (.iload_n 3, 1) := by decide +kernel
theorem dX7_meetsIn_40 : decode cX7_meetsIn 40 = .ok (.istore_n 3, 1) := by decide +kernel
theorem dX7_meetsIn_41 : decode cX7_meetsIn 41 = .ok (.iinc 4 1, 3) := by decide +kernel
theorem dX7_meetsIn_44 : decode cX7_meetsIn 44 = .ok (.goto (-34), 3) := by decide +kernel
theorem dX7_meetsIn_47 : decode cX7_meetsIn 47 = .ok (.iload_n 3, 1) := by decide +kernel
theorem dX7_meetsIn_48 : decode cX7_meetsIn 48 = .ok (.ireturn, 1) := by decide +kernel
theorem dX7_meet_0 : decode cX7_meet 0 = .ok (.aload_n 0, 1) := by decide +kernel
theorem dX7_meet_1 : decode cX7_meet 1 = .ok (.iload_n 1, 1) := by decide +kernel
theorem dX7_meet_2 : decode cX7_meet 2 = .ok (.invokevirtual 202, 3) := by decide +kernel
theorem dX7_meet_5 : decode cX7_meet 5 = .ok (.ifCond .eq 7, 3) := by decide +kernel
theorem dX7_meet_8 : decode cX7_meet 8 = .ok (.iconst (-1), 1) := by decide +kernel
theorem dX7_meet_9 : decode cX7_meet 9 = .ok (.goto 12, 3) := by decide +kernel
theorem dX7_meet_12 : decode cX7_meet 12 = .ok (.aload_n 0, 1) := by decide +kernel
theorem dX7_meet_13 : decode cX7_meet 13 = .ok (.iload_n 1, 1) := by decide +kernel
theorem dX7_meet_14 : decode cX7_meet 14 = .ok (.aload_n 0, 1) := by decide +kernel
theorem dX7_meet_15 : decode cX7_meet 15 = .ok (.getfield 96, 3) := by decide +kernel
theorem dX7_meet_18 : decode cX7_meet 18 = .ok (.invokevirtual 205, 3) := by decide +kernel
theorem dX7_meet_21 : decode cX7_meet 21 = .ok (.ireturn, 1) := by decide +kernel
theorem dX7_isNobodyOut_0 : decode cX7_isNobodyOut 0 = .ok (.aload_n 0, 1) := by decide +kernel
theorem dX7_isNobodyOut_1 : decode cX7_isNobodyOut 1 = .ok (.invokevirtual 186, 3) := by decide +kernel
theorem dX7_isNobodyOut_4 : decode cX7_isNobodyOut 4 = .ok (.iconst 1, 1) := by decide +kernel
theorem dX7_isNobodyOut_5 : decode cX7_isNobodyOut 5 = .ok (.istore_n 2, 1) := by decide +kernel
theorem dX7_isNobodyOut_6 : decode cX7_isNobodyOut 6 = .ok (.iconst 0, 1) := by decide +kernel
theorem dX7_isNobodyOut_7 : decode cX7_isNobodyOut 7 = .ok (.istore_n 3, 1) := by decide +kernel
theorem dX7_isNobodyOut_8 : decode cX7_isNobodyOut 8 = .ok (.iload_n 3, 1) := by decide +kernel
theorem dX7_isNobodyOut_9 : decode cX7_isNobodyOut 9 = .ok (.iload_n 1, 1) := by decide +kernel
theorem dX7_isNobodyOut_10 : decode cX7_isNobodyOut 10 = .ok (.if_icmp .ge 35, 3) := by decide +kernel
theorem dX7_isNobodyOut_13 : decode cX7_isNobodyOut 13 = .ok (.aload_n 0, 1) := by decide +kernel
theorem dX7_isNobodyOut_14 : decode cX7_isNobodyOut 14 = .ok (.iload_n 3, 1) := by decide +kernel
theorem dX7_isNobodyOut_15 : decode cX7_isNobodyOut 15 = .ok (.invokevirtual 189, 3) := by decide +kernel
theorem dX7_isNobodyOut_18 : decode cX7_isNobodyOut 18 = .ok (.iload_n 2, 1) := by decide +kernel
theorem dX7_isNobodyOut_19 : decode cX7_isNobodyOut 19 = .ok (.ifCond .eq 18, 3) := by decide +kernel
theorem dX7_isNobodyOut_22 : decode cX7_isNobodyOut 22 = .ok (.aload_n 0, 1) := by decide +kernel
theorem dX7_isNobodyOut_23 : decode cX7_isNobodyOut 23 = .ok (.aload_n 0, 1) := by decide +kernel
theorem dX7_isNobodyOut_24 : decode cX7_isNobodyOut 24 = .ok (.getfield 86, 3) := by decide +kernel
theorem dX7_isNobodyOut_27 : decode cX7_isNobodyOut 27 = .ok (.invokevirtual 196, 3) := by decide +kernel
theorem dX7_isNobodyOut_30 : decode cX7_isNobodyOut 30 = .ok (.ifCond .ne 7, 3) := by decide +kernel
theorem dX7_isNobodyOut_33 : decode cX7_isNobodyOut 33 = .ok (.iconst 1, 1) := by decide +kernel
theorem dX7_isNobodyOut_34 : decode cX7_isNobodyOut 34 = .ok (.goto 4, 3) := by decide +kernel
theorem dX7_isNobodyOut_37 : decode cX7_isNobodyOut 37 = .ok (.iconst 0, 1) := by decide +kernel
theorem dX7_isNobodyOut_38 : decode cX7_isNobodyOut 38 = .ok (.istore_n 2, 1) := by decide +kernel
theorem dX7_isNobodyOut_39 : decode cX7_isNobodyOut 39 = .ok (.iinc 3 1, 3) := by decide +kernel
theorem dX7_isNobodyOut_42 : decode cX7_isNobodyOut 42 = .ok (.goto (-34), 3) := by decide +kernel
theorem dX7_isNobodyOut_45 : decode cX7_isNobodyOut 45 = .ok (.iload_n 2, 1) := by decide +kernel
theorem dX7_isNobodyOut_46 : decode cX7_isNobodyOut 46 = .ok (.ireturn, 1) := by decide +kernel
theorem dX7_isBy_0 : decode cX7_isBy 0 = .ok (.aload_n 0, 1) := by decide +kernel
theorem dX7_isBy_1 : decode cX7_isBy 1 = .ok (.getfield 13, 3) := by decide +kernel
theorem dX7_isBy_4 : decode cX7_isBy 4 = .ok (.iload_n 1, 1) := by decide +kernel
theorem dX7_isBy_5 : decode cX7_isBy 5 = .ok (.iaload, 1) := by decide +kernel
theorem dX7_isBy_6 : decode cX7_isBy 6 = .ok (.istore 5, 2) := by decide +kernel
theorem dX7_isBy_8 : decode cX7_isBy 8 = .ok (.aload_n 0, 1) := by decide +kernel
theorem dX7_isBy_9 : decode cX7_isBy 9 = .ok (.getfield 13, 3) := by decide +kernel
theorem dX7_isBy_12 : decode cX7_isBy 12 = .ok (.iload_n 2, 1) := by decide +kernel
theorem dX7_isBy_13 : decode cX7_isBy 13 = .ok (.iaload, 1) := by decide +kernel
theorem dX7_isBy_14 : decode cX7_isBy 14 = .ok (.istore 6, 2) := by decide +kernel
theorem dX7_isBy_16 : decode cX7_isBy 16 = .ok (.iload_n 3, 1) := by decide +kernel
theorem dX7_isBy_17 : decode cX7_isBy 17 = .ok (.iload 5, 2) := by decide +kernel
theorem dX7_isBy_19 : decode cX7_isBy 19 = .ok (.if_icmp .le 5, 3) := by decide +kernel
theorem dX7_isBy_22 : decode cX7_isBy 22 = .ok (.iconst 0, 1) := by decide +kernel
theorem dX7_isBy_23 : decode cX7_isBy 23 = .ok (.ireturn, 1) := by decide +kernel
theorem dX7_isBy_24 : decode cX7_isBy 24 = .ok (.aload_n 0, 1) := by decide +kernel
theorem dX7_isBy_25 : decode cX7_isBy 25 = .ok (.iload_n 1, 1) := by decide +kernel
theorem dX7_isBy_26 : decode cX7_isBy 26 = .ok (.iload_n 2, 1) := by decide +kernel
theorem dX7_isBy_27 : decode cX7_isBy 27 = .ok (.iload_n 3, 1) := by decide +kernel
theorem dX7_isBy_28 : decode cX7_isBy 28 = .ok (.invokevirtual 175, 3) := by decide +kernel
theorem dX7_isBy_31 : decode cX7_isBy 31 = .ok (.pop, 1) := by decide +kernel
theorem dX7_isBy_32 : decode cX7_isBy 32 = .ok (.aload_n 0, 1) := by decide +kernel
theorem dX7_isBy_33 : decode cX7_isBy 33 = .ok (.iload 4, 2) := by decide +kernel
theorem dX7_isBy_35 : decode cX7_isBy 35 = .ok (.invokevirtual 208, 3) := by decide +kernel
theorem dX7_isBy_38 : decode cX7_isBy 38 = .ok (.istore 7, 2) := by decide +kernel
theorem dX7_isBy_40 : decode cX7_isBy 40 = .ok (.aload_n 0, 1) := by decide +kernel
theorem dX7_isBy_41 : decode cX7_isBy 41 = .ok (.getfield 13, 3) := by decide +kernel
theorem dX7_isBy_44 : decode cX7_isBy 44 = .ok (.iload_n 1, 1) := by decide +kernel
theorem dX7_isBy_45 : decode cX7_isBy 45 = .ok (.iload 5, 2) := by decide +kernel
theorem dX7_isBy_47 : decode cX7_isBy 47 = .ok (.iastore, 1) := by decide +kernel
theorem dX7_isBy_48 : decode cX7_isBy 48 = .ok (.aload_n 0, 1) := by decide +kernel
theorem dX7_isBy_49 : decode cX7_isBy 49 = .ok (.getfield 13, 3) := by decide +kernel
theorem dX7_isBy_52 : decode cX7_isBy 52 = .ok (.iload_n 2, 1) := by decide +kernel
theorem dX7_isBy_53 : decode cX7_isBy 53 = .ok (.iload 6, 2) := by decide +kernel
theorem dX7_isBy_55 : decode cX7_isBy 55 = .ok (.iastore, 1) := by decide +kernel
theorem dX7_isBy_56 : decode cX7_isBy 56 = .ok (.iload 7, 2) := by decide +kernel
theorem dX7_isBy_58 : decode cX7_isBy 58 = .ok (.ireturn, 1) := by decide +kernel
theorem dX7_least_0 : decode cX7_least 0 = .ok (.iload_n 1, 1) := by decide +kernel
theorem dX7_least_1 : decode cX7_least 1 = .ok (.i2l, 1) := by decide +kernel
theorem dX7_least_2 : decode cX7_least 2 = .ok (.lconst 0, 1) := by decide +kernel
theorem dX7_least_3 : decode cX7_least 3 = .ok (.aload_n 0, 1) := by decide +kernel
theorem dX7_least_4 : decode cX7_least 4 = .ok (.getfield 96, 3) := by decide +kernel
theorem dX7_least_7 : decode cX7_least 7 = .ok (.i2l, 1) := by decide +kernel
theorem dX7_least_8 : decode cX7_least 8 = .ok (.invokestatic 89, 3) := by decide +kernel
theorem dX7_least_11 : decode cX7_least 11 = .ok (.ifCond .eq 15, 3) := by decide +kernel
theorem dX7_least_14 : decode cX7_least 14 = .ok (.iload_n 2, 1) := by decide +kernel
theorem dX7_least_15 : decode cX7_least 15 = .ok (.i2l, 1) := by decide +kernel
theorem dX7_least_16 : decode cX7_least 16 = .ok (.lconst 0, 1) := by decide +kernel
theorem dX7_least_17 : decode cX7_least 17 = .ok (.ldc2_w 144, 3) := by decide +kernel
theorem dX7_least_20 : decode cX7_least 20 = .ok (.invokestatic 89, 3) := by decide +kernel
theorem dX7_least_23 : decode cX7_least 23 = .ok (.ifCond .ne 6, 3) := by decide +kernel
theorem dX7_least_26 : decode cX7_least 26 = .ok (.bipush (-2), 2) := by decide +kernel
theorem dX7_least_28 : decode cX7_least 28 = .ok (.ireturn, 1) := by decide +kernel
theorem dX7_least_29 : decode cX7_least 29 = .ok (.aload_n 0, 1) := by decide +kernel
theorem dX7_least_30 : decode cX7_least 30 = .ok (.getfield 86, 3) := by decide +kernel
theorem dX7_least_33 : decode cX7_least 33 = .ok (.ifCond .ne 6, 3) := by decide +kernel
theorem dX7_least_36 : decode cX7_least 36 = .ok (.bipush (-3), 2) := by decide +kernel
theorem dX7_least_38 : decode cX7_least 38 = .ok (.ireturn, 1) := by decide +kernel
theorem dX7_least_39 : decode cX7_least 39 = .ok (.aload_n 0, 1) := by decide +kernel
theorem dX7_least_40 : decode cX7_least 40 = .ok (.iload_n 1, 1) := by decide +kernel
theorem dX7_least_41 : decode cX7_least 41 = .ok (.invokevirtual 208, 3) := by decide +kernel
theorem dX7_least_44 : decode cX7_least 44 = .ok (.ifCond .eq 14, 3) := by decide +kernel
theorem dX7_least_47 : decode cX7_least 47 = .ok (.iload_n 2, 1) := by decide +kernel
theorem dX7_least_48 : decode cX7_least 48 = .ok (.ifCond .ne 7, 3) := by decide +kernel
theorem dX7_least_51 : decode cX7_least 51 = .ok (.iconst 0, 1) := by decide +kernel
theorem dX7_least_52 : decode cX7_least 52 = .ok (.goto 5, 3) := by decide +kernel
theorem dX7_least_55 : decode cX7_least 55 = .ok (.bipush (-9), 2) := by decide +kernel
theorem dX7_least_57 : decode cX7_least 57 = .ok (.ireturn, 1) := by decide +kernel
theorem dX7_least_58 : decode cX7_least 58 = .ok (.iconst 0, 1) := by decide +kernel
theorem dX7_least_59 : decode cX7_least 59 = .ok (.istore_n 3, 1) := by decide +kernel
theorem dX7_least_60 : decode cX7_least 60 = .ok (.iload_n 3, 1) := by decide +kernel
theorem dX7_least_61 : decode cX7_least 61 = .ok (.bipush 18, 2) := by decide +kernel
theorem dX7_least_63 : decode cX7_least 63 = .ok (.aload_n 0, 1) := by decide +kernel
theorem dX7_least_64 : decode cX7_least 64 = .ok (.getfield 86, 3) := by decide +kernel
theorem dX7_least_67 : decode cX7_least 67 = .ok (.imul, 1) := by decide +kernel
theorem dX7_least_68 : decode cX7_least 68 = .ok (.if_icmp .ge 97, 3) := by decide +kernel
theorem dX7_least_71 : decode cX7_least 71 = .ok (.iconst 1, 1) := by decide +kernel
theorem dX7_least_72 : decode cX7_least 72 = .ok (.iload_n 3, 1) := by decide +kernel
theorem dX7_least_73 : decode cX7_least 73 = .ok (.iconst 2, 1) := by decide +kernel
theorem dX7_least_74 : decode cX7_least 74 = .ok (.aload_n 0, 1) := by decide +kernel
theorem dX7_least_75 : decode cX7_least 75 = .ok (.getfield 86, 3) := by decide +kernel
theorem dX7_least_78 : decode cX7_least 78 = .ok (.imul, 1) := by decide +kernel
theorem dX7_least_79 : decode cX7_least 79 = .ok (.idiv, 1) := by decide +kernel
theorem dX7_least_80 : decode cX7_least 80 = .ok (.iadd, 1) := by decide +kernel
theorem dX7_least_81 : decode cX7_least 81 = .ok (.istore 4, 2) := by decide +kernel
theorem dX7_least_83 : decode cX7_least 83 = .ok (.iload_n 3, 1) := by decide +kernel
theorem dX7_least_84 : decode cX7_least 84 = .ok (.iconst 2, 1) := by decide +kernel
theorem dX7_least_85 : decode cX7_least 85 = .ok (.aload_n 0, 1) := by decide +kernel
theorem dX7_least_86 : decode cX7_least 86 = .ok (.getfield 86, 3) := by decide +kernel
theorem dX7_least_89 : decode cX7_least 89 = .ok (.imul, 1) := by decide +kernel
theorem dX7_least_90 : decode cX7_least 90 = .ok (.irem, 1) := by decide +kernel
theorem dX7_least_91 : decode cX7_least 91 = .ok (.iconst 2, 1) := by decide +kernel
theorem dX7_least_92 : decode cX7_least 92 = .ok (.idiv, 1) := by decide +kernel
theorem dX7_least_93 : decode cX7_least 93 = .ok (.istore 5, 2) := by decide +kernel
theorem dX7_least_95 : decode cX7_least 95 = .ok (.iload_n 3, 1) := by decide +kernel
theorem dX7_least_96 : decode cX7_least 96 = .ok (.iconst 2, 1) := by decide +kernel
theorem dX7_least_97 : decode cX7_least 97 = .ok (.irem, 1) := by decide +kernel
theorem dX7_least_98 : decode cX7_least 98 = .ok (.ifCond .ne 10, 3) := by decide +kernel
theorem dX7_least_101 : decode cX7_least 101 = .ok (.iload 5, 2) := by decide +kernel
theorem dX7_least_103 : decode cX7_least 103 = .ok (.iconst 1, 1) := by decide +kernel
theorem dX7_least_104 : decode cX7_least 104 = .ok (.isub, 1) := by decide +kernel
theorem dX7_least_105 : decode cX7_least 105 = .ok (.goto 7, 3) := by decide +kernel
theorem dX7_least_108 : decode cX7_least 108 = .ok (.iload 5, 2) := by decide +kernel
theorem dX7_least_110 : decode cX7_least 110 = .ok (.iconst 1, 1) := by decide +kernel
theorem dX7_least_111 : decode cX7_least 111 = .ok (.iadd, 1) := by decide +kernel
theorem dX7_least_112 : decode cX7_least 112 = .ok (.istore 6, 2) := by decide +kernel
theorem dX7_least_114 : decode cX7_least 114 = .ok (.aload_n 0, 1) := by decide +kernel
theorem dX7_least_115 : decode cX7_least 115 = .ok (.iload 6, 2) := by decide +kernel
theorem dX7_least_117 : decode cX7_least 117 = .ok (.invokevirtual 159, 3) := by decide +kernel
theorem dX7_least_120 : decode cX7_least 120 = .ok (.ifCond .ne 39, 3) := by decide +kernel
theorem dX7_least_123 : decode cX7_least 123 = .ok (.aload_n 0, 1) := by decide +kernel
theorem dX7_least_124 : decode cX7_least 124 = .ok (.iload 5, 2) := by decide +kernel
theorem dX7_least_126 : decode cX7_least 126 = .ok (.iload 6, 2) := by decide +kernel
theorem dX7_least_128 : decode cX7_least 128 = .ok (.iload 4, 2) := by decide +kernel
theorem dX7_least_130 : decode cX7_least 130 = .ok (.iload_n 1, 1) := by decide +kernel
theorem dX7_least_131 : decode cX7_least 131 = .ok (.invokevirtual 211, 3) := by decide +kernel
theorem dX7_least_134 : decode cX7_least 134 = .ok (.ifCond .eq 25, 3) := by decide +kernel
theorem dX7_least_137 : decode cX7_least 137 = .ok (.iload_n 2, 1) := by decide +kernel
theorem dX7_least_138 : decode cX7_least 138 = .ok (.ifCond .ne 8, 3) := by decide +kernel
theorem dX7_least_141 : decode cX7_least 141 = .ok (.iload 4, 2) := by decide +kernel
theorem dX7_least_143 : decode cX7_least 143 = .ok (.goto 15, 3) := by decide +kernel
theorem dX7_least_146 : decode cX7_least 146 = .ok (.iload_n 2, 1) := by decide +kernel
theorem dX7_least_147 : decode cX7_least 147 = .ok (.iconst 1, 1) := by decide +kernel
theorem dX7_least_148 : decode cX7_least 148 = .ok (.if_icmp .ne 8, 3) := by decide +kernel
theorem dX7_least_151 : decode cX7_least 151 = .ok (.iload 5, 2) := by decide +kernel
theorem dX7_least_153 : decode cX7_least 153 = .ok (.goto 5, 3) := by decide +kernel
theorem dX7_least_156 : decode cX7_least 156 = .ok (.iload 6, 2) := by decide +kernel
theorem dX7_least_158 : decode cX7_least 158 = .ok (.ireturn, 1) := by decide +kernel
theorem dX7_least_159 : decode cX7_least 159 = .ok (.iinc 3 1, 3) := by decide +kernel
theorem dX7_least_162 : decode cX7_least 162 = .ok (.goto (-102), 3) := by decide +kernel
theorem dX7_least_165 : decode cX7_least 165 = .ok (.bipush (-9), 2) := by decide +kernel
theorem dX7_least_167 : decode cX7_least 167 = .ok (.ireturn, 1) := by decide +kernel
theorem dX7_turn_0 : decode cX7_turn 0 = .ok (.aload_n 0, 1) := by decide +kernel
theorem dX7_turn_1 : decode cX7_turn 1 = .ok (.iload_n 1, 1) := by decide +kernel
theorem dX7_turn_2 : decode cX7_turn 2 = .ok (.invokevirtual 202, 3) := by decide +kernel
theorem dX7_turn_5 : decode cX7_turn 5 = .ok (.ifCond .eq 5, 3) := by decide +kernel
theorem dX7_turn_8 : decode cX7_turn 8 = .ok (.iconst (-1), 1) := by decide +kernel
theorem dX7_turn_9 : decode cX7_turn 9 = .ok (.ireturn, 1) := by decide +kernel
theorem dX7_turn_10 : decode cX7_turn 10 = .ok (.iload_n 2, 1) := by decide +kernel
theorem dX7_turn_11 : decode cX7_turn 11 = .ok (.i2l, 1) := by decide +kernel
theorem dX7_turn_12 : decode cX7_turn 12 = .ok (.lconst 0, 1) := by decide +kernel
theorem dX7_turn_13 : decode cX7_turn 13 = .ok (.aload_n 0, 1) := by decide +kernel
theorem dX7_turn_14 : decode cX7_turn 14 = .ok (.getfield 96, 3) := by decide +kernel
theorem dX7_turn_17 : decode cX7_turn 17 = .ok (.i2l, 1) := by decide +kernel
theorem dX7_turn_18 : decode cX7_turn 18 = .ok (.invokestatic 89, 3) := by decide +kernel
theorem dX7_turn_21 : decode cX7_turn 21 = .ok (.ifCond .ne 6, 3) := by decide +kernel
theorem dX7_turn_24 : decode cX7_turn 24 = .ok (.bipush (-2), 2) := by decide +kernel
theorem dX7_turn_26 : decode cX7_turn 26 = .ok (.ireturn, 1) := by decide +kernel
theorem dX7_turn_27 : decode cX7_turn 27 = .ok (.aload_n 0, 1) := by decide +kernel
theorem dX7_turn_28 : decode cX7_turn 28 = .ok (.iload_n 1, 1) := by decide +kernel
theorem dX7_turn_29 : decode cX7_turn 29 = .ok (.iload_n 2, 1) := by decide +kernel
theorem dX7_turn_30 : decode cX7_turn 30 = .ok (.invokevirtual 205, 3) := by decide +kernel
theorem dX7_turn_33 : decode cX7_turn 33 = .ok (.ifCond .lt 6, 3) := by decide +kernel
theorem dX7_turn_36 : decode cX7_turn 36 = .ok (.bipush (-9), 2) := by decide +kernel
theorem dX7_turn_38 : decode cX7_turn 38 = .ok (.ireturn, 1) := by decide +kernel
theorem dX7_turn_39 : decode cX7_turn 39 = .ok (.bipush (-9), 2) := by decide +kernel
theorem dX7_turn_41 : decode cX7_turn 41 = .ok (.istore_n 3, 1) := by decide +kernel
theorem dX7_turn_42 : decode cX7_turn 42 = .ok (.iconst 0, 1) := by decide +kernel
theorem dX7_turn_43 : decode cX7_turn 43 = .ok (.istore 4, 2) := by decide +kernel
theorem dX7_turn_45 : decode cX7_turn 45 = .ok (.iload 4, 2) := by decide +kernel
theorem dX7_turn_47 : decode cX7_turn 47 = .ok (.iload_n 2, 1) := by decide +kernel
theorem dX7_turn_48 : decode cX7_turn 48 = .ok (.if_icmp .ge 62, 3) := by decide +kernel
theorem dX7_turn_51 : decode cX7_turn 51 = .ok (.iload_n 3, 1) := by decide +kernel
theorem dX7_turn_52 : decode cX7_turn 52 = .ok (.ifCond .ge 58, 3) := by decide +kernel
theorem dX7_turn_55 : decode cX7_turn 55 = .ok (.aload_n 0, 1) := by decide +kernel
theorem dX7_turn_56 : decode cX7_turn 56 = .ok (.getfield 16, 3) := by decide +kernel
theorem dX7_turn_59 : decode cX7_turn 59 = .ok (.iload 4, 2) := by decide +kernel
theorem dX7_turn_61 : decode cX7_turn 61 = .ok (.iconst 1, 1) := by decide +kernel
theorem dX7_turn_62 : decode cX7_turn 62 = .ok (.aload_n 0, 1) := by decide +kernel
theorem dX7_turn_63 : decode cX7_turn 63 = .ok (.getfield 16, 3) := by decide +kernel
theorem dX7_turn_66 : decode cX7_turn 66 = .ok (.iload 4, 2) := by decide +kernel
theorem dX7_turn_68 : decode cX7_turn 68 = .ok (.iaload, 1) := by decide +kernel
theorem dX7_turn_69 : decode cX7_turn 69 = .ok (.isub, 1) := by decide +kernel
theorem dX7_turn_70 : decode cX7_turn 70 = .ok (.iastore, 1) := by decide +kernel
theorem dX7_turn_71 : decode cX7_turn 71 = .ok (.aload_n 0, 1) := by decide +kernel
theorem dX7_turn_72 : decode cX7_turn 72 = .ok (.iload_n 1, 1) := by decide +kernel
theorem dX7_turn_73 : decode cX7_turn 73 = .ok (.iload_n 2, 1) := by decide +kernel
theorem dX7_turn_74 : decode cX7_turn 74 = .ok (.invokevirtual 205, 3) := by decide +kernel
theorem dX7_turn_77 : decode cX7_turn 77 = .ok (.ifCond .lt 8, 3) := by decide +kernel
theorem dX7_turn_80 : decode cX7_turn 80 = .ok (.iload 4, 2) := by decide +kernel
theorem dX7_turn_82 : decode cX7_turn 82 = .ok (.goto 5, 3) := by decide +kernel
theorem dX7_turn_85 : decode cX7_turn 85 = .ok (.bipush (-9), 2) := by decide +kernel
theorem dX7_turn_87 : decode cX7_turn 87 = .ok (.istore_n 3, 1) := by decide +kernel
theorem dX7_turn_88 : decode cX7_turn 88 = .ok (.aload_n 0, 1) := by decide +kernel
theorem dX7_turn_89 : decode cX7_turn 89 = .ok (.getfield 16, 3) := by decide +kernel
theorem dX7_turn_92 : decode cX7_turn 92 = .ok (.iload 4, 2) := by decide +kernel
theorem dX7_turn_94 : decode cX7_turn 94 = .ok (.iconst 1, 1) := by decide +kernel
theorem dX7_turn_95 : decode cX7_turn 95 = .ok (.aload_n 0, 1) := by decide +kernel
theorem dX7_turn_96 : decode cX7_turn 96 = .ok (.getfield 16, 3) := by decide +kernel
theorem dX7_turn_99 : decode cX7_turn 99 = .ok (.iload 4, 2) := by decide +kernel
theorem dX7_turn_101 : decode cX7_turn 101 = .ok (.iaload, 1) := by decide +kernel
theorem dX7_turn_102 : decode cX7_turn 102 = .ok (.isub, 1) := by decide +kernel
theorem dX7_turn_103 : decode cX7_turn 103 = .ok (.iastore, 1) := by decide +kernel
theorem dX7_turn_104 : decode cX7_turn 104 = .ok (.iinc 4 1, 3) := by decide +kernel
theorem dX7_turn_107 : decode cX7_turn 107 = .ok (.goto (-62), 3) := by decide +kernel
theorem dX7_turn_110 : decode cX7_turn 110 = .ok (.iload_n 3, 1) := by decide +kernel
theorem dX7_turn_111 : decode cX7_turn 111 = .ok (.ireturn, 1) := by decide +kernel
theorem dX7_bits_0 : decode cX7_bits 0 = .ok (.iconst 0, 1) := by decide +kernel
theorem dX7_bits_1 : decode cX7_bits 1 = .ok (.istore_n 1, 1) := by decide +kernel
theorem dX7_bits_2 : decode cX7_bits 2 = .ok (.iload_n 0, 1) := by decide +kernel
theorem dX7_bits_3 : decode cX7_bits 3 = .ok (.istore_n 2, 1) := by decide +kernel
theorem dX7_bits_4 : decode cX7_bits 4 = .ok (.iload_n 2, 1) := by decide +kernel
theorem dX7_bits_5 : decode cX7_bits 5 = .ok (.ifCond .le 16, 3) := by decide +kernel
theorem dX7_bits_8 : decode cX7_bits 8 = .ok (.iload_n 1, 1) := by decide +kernel
theorem dX7_bits_9 : decode cX7_bits 9 = .ok (.iload_n 2, 1) := by decide +kernel
theorem dX7_bits_10 : decode cX7_bits 10 = .ok (.iconst 1, 1) := by decide +kernel
theorem dX7_bits_11 : decode cX7_bits 11 = .ok (.iand, 1) := by decide +kernel
theorem dX7_bits_12 : decode cX7_bits 12 = .ok (.iadd, 1) := by decide +kernel
theorem dX7_bits_13 : decode cX7_bits 13 = .ok (.istore_n 1, 1) := by decide +kernel
theorem dX7_bits_14 : decode cX7_bits 14 = .ok (.iload_n 2, 1) := by decide +kernel
theorem dX7_bits_15 : decode cX7_bits 15 = .ok (.iconst 1, 1) := by decide +kernel
theorem dX7_bits_16 : decode cX7_bits 16 = .ok (.ishr, 1) := by decide +kernel
theorem dX7_bits_17 : decode cX7_bits 17 = .ok (.istore_n 2, 1) := by decide +kernel
theorem dX7_bits_18 : decode cX7_bits 18 = .ok (.goto (-14), 3) := by decide +kernel
theorem dX7_bits_21 : decode cX7_bits 21 = .ok (.iload_n 1, 1) := by decide +kernel
theorem dX7_bits_22 : decode cX7_bits 22 = .ok (.ireturn, 1) := by decide +kernel
theorem dX7_corks_0 : decode cX7_corks 0 = .ok (.aload_n 0, 1) := by decide +kernel
theorem dX7_corks_1 : decode cX7_corks 1 = .ok (.getfield 86, 3) := by decide +kernel
theorem dX7_corks_4 : decode cX7_corks 4 = .ok (.ifCond .ne 6, 3) := by decide +kernel
theorem dX7_corks_7 : decode cX7_corks 7 = .ok (.bipush (-3), 2) := by decide +kernel
theorem dX7_corks_9 : decode cX7_corks 9 = .ok (.ireturn, 1) := by decide +kernel
theorem dX7_corks_10 : decode cX7_corks 10 = .ok (.aload_n 0, 1) := by decide +kernel
theorem dX7_corks_11 : decode cX7_corks 11 = .ok (.iload_n 1, 1) := by decide +kernel
theorem dX7_corks_12 : decode cX7_corks 12 = .ok (.invokevirtual 168, 3) := by decide +kernel
theorem dX7_corks_15 : decode cX7_corks 15 = .ok (.ifCond .eq 6, 3) := by decide +kernel
theorem dX7_corks_18 : decode cX7_corks 18 = .ok (.bipush (-2), 2) := by decide +kernel
theorem dX7_corks_20 : decode cX7_corks 20 = .ok (.ireturn, 1) := by decide +kernel
theorem dX7_corks_21 : decode cX7_corks 21 = .ok (.aload_n 0, 1) := by decide +kernel
theorem dX7_corks_22 : decode cX7_corks 22 = .ok (.iload_n 1, 1) := by decide +kernel
theorem dX7_corks_23 : decode cX7_corks 23 = .ok (.iconst 1, 1) := by decide +kernel
theorem dX7_corks_24 : decode cX7_corks 24 = .ok (.iadd, 1) := by decide +kernel
theorem dX7_corks_25 : decode cX7_corks 25 = .ok (.invokevirtual 193, 3) := by decide +kernel
theorem dX7_corks_28 : decode cX7_corks 28 = .ok (.aload_n 0, 1) := by decide +kernel
theorem dX7_corks_29 : decode cX7_corks 29 = .ok (.aload_n 0, 1) := by decide +kernel
theorem dX7_corks_30 : decode cX7_corks 30 = .ok (.getfield 86, 3) := by decide +kernel
theorem dX7_corks_33 : decode cX7_corks 33 = .ok (.invokevirtual 196, 3) := by decide +kernel
theorem dX7_corks_36 : decode cX7_corks 36 = .ok (.invokestatic 215, 3) := by decide +kernel
theorem dX7_corks_39 : decode cX7_corks 39 = .ok (.istore_n 2, 1) := by decide +kernel
theorem dX7_corks_40 : decode cX7_corks 40 = .ok (.iconst 0, 1) := by decide +kernel
theorem dX7_corks_41 : decode cX7_corks 41 = .ok (.istore_n 3, 1) := by decide +kernel
theorem dX7_corks_42 : decode cX7_corks 42 = .ok (.iconst 0, 1) := by decide +kernel
theorem dX7_corks_43 : decode cX7_corks 43 = .ok (.istore 4, 2) := by decide +kernel
theorem dX7_corks_45 : decode cX7_corks 45 = .ok (.iload 4, 2) := by decide +kernel
theorem dX7_corks_47 : decode cX7_corks 47 = .ok (.aload_n 0, 1) := by decide +kernel
theorem dX7_corks_48 : decode cX7_corks 48 = .ok (.getfield 86, 3) := by decide +kernel
theorem dX7_corks_51 : decode cX7_corks 51 = .ok (.if_icmp .ge 48, 3) := by decide +kernel
theorem dX7_corks_54 : decode cX7_corks 54 = .ok (.aload_n 0, 1) := by decide +kernel
theorem dX7_corks_55 : decode cX7_corks 55 = .ok (.iload 4, 2) := by decide +kernel
theorem dX7_corks_57 : decode cX7_corks 57 = .ok (.putfield 73, 3) := by decide +kernel
theorem dX7_corks_60 : decode cX7_corks 60 = .ok (.aload_n 0, 1) := by decide +kernel
theorem dX7_corks_61 : decode cX7_corks 61 = .ok (.iload_n 1, 1) := by decide +kernel
theorem dX7_corks_62 : decode cX7_corks 62 = .ok (.iconst 1, 1) := by decide +kernel
theorem dX7_corks_63 : decode cX7_corks 63 = .ok (.iadd, 1) := by decide +kernel
theorem dX7_corks_64 : decode cX7_corks 64 = .ok (.invokevirtual 193, 3) := by decide +kernel
theorem dX7_corks_67 : decode cX7_corks 67 = .ok (.iload_n 3, 1) := by decide +kernel
theorem dX7_corks_68 : decode cX7_corks 68 = .ok (.aload_n 0, 1) := by decide +kernel
theorem dX7_corks_69 : decode cX7_corks 69 = .ok (.aload_n 0, 1) := by decide +kernel
theorem dX7_corks_70 : decode cX7_corks 70 = .ok (.getfield 86, 3) := by decide +kernel
theorem dX7_corks_73 : decode cX7_corks 73 = .ok (.invokevirtual 196, 3) := by decide +kernel
theorem dX7_corks_76 : decode cX7_corks 76 = .ok (.invokestatic 215, 3) := by decide +kernel
theorem dX7_corks_79 : decode cX7_corks 79 = .ok (.iload_n 2, 1) := by decide +kernel
theorem dX7_corks_80 : decode cX7_corks 80 = .ok (.if_icmp .ge 10, 3) := by decide +kernel
theorem dX7_corks_83 : decode cX7_corks 83 = .ok (.iconst 1, 1) := by decide +kernel
theorem dX7_corks_84 : decode cX7_corks 84 = .ok (.iload 4, 2) := by decide +kernel
theorem dX7_corks_86 : decode cX7_corks 86 = .ok (.ishl, 1) := by decide +kernel
theorem dX7_corks_87 : decode cX7_corks 87 = .ok (.goto 4, 3) := by decide +kernel
theorem dX7_corks_90 : decode cX7_corks 90 = .ok (.iconst 0, 1) := by decide +kernel
theorem dX7_corks_91 : decode cX7_corks 91 = .ok (.ior, 1) := by decide +kernel
theorem dX7_corks_92 : decode cX7_corks 92 = .ok (.istore_n 3, 1) := by decide +kernel
theorem dX7_corks_93 : decode cX7_corks 93 = .ok (.iinc 4 1, 3) := by decide +kernel
theorem dX7_corks_96 : decode cX7_corks 96 = .ok (.goto (-51), 3) := by decide +kernel
theorem dX7_corks_99 : decode cX7_corks 99 = .ok (.aload_n 0, 1) := by decide +kernel
theorem dX7_corks_100 : decode cX7_corks 100 = .ok (.bipush (-9), 2) := by decide +kernel
theorem dX7_corks_102 : decode cX7_corks 102 = .ok (.putfield 73, 3) := by decide +kernel
theorem dX7_corks_105 : decode cX7_corks 105 = .ok (.iload_n 3, 1) := by decide +kernel
theorem dX7_corks_106 : decode cX7_corks 106 = .ok (.ireturn, 1) := by decide +kernel
theorem dX7_reading_0 : decode cX7_reading 0 = .ok (.aload_n 0, 1) := by decide +kernel
theorem dX7_reading_1 : decode cX7_reading 1 = .ok (.iload_n 1, 1) := by decide +kernel
theorem dX7_reading_2 : decode cX7_reading 2 = .ok (.invokevirtual 165, 3) := by decide +kernel
theorem dX7_reading_5 : decode cX7_reading 5 = .ok (.ifCond .ne 17, 3) := by decide +kernel
theorem dX7_reading_8 : decode cX7_reading 8 = .ok (.iload_n 2, 1) := by decide +kernel
theorem dX7_reading_9 : decode cX7_reading 9 = .ok (.i2l, 1) := by decide +kernel
theorem dX7_reading_10 : decode cX7_reading 10 = .ok (.lconst 0, 1) := by decide +kernel
theorem dX7_reading_11 : decode cX7_reading 11 = .ok (.aload_n 0, 1) := by decide +kernel
theorem dX7_reading_12 : decode cX7_reading 12 = .ok (.getfield 86, 3) := by decide +kernel
theorem dX7_reading_15 : decode cX7_reading 15 = .ok (.i2l, 1) := by decide +kernel
theorem dX7_reading_16 : decode cX7_reading 16 = .ok (.invokestatic 89, 3) := by decide +kernel
theorem dX7_reading_19 : decode cX7_reading 19 = .ok (.ifCond .ne 5, 3) := by decide +kernel
theorem dX7_reading_22 : decode cX7_reading 22 = .ok (.iconst (-1), 1) := by decide +kernel
theorem dX7_reading_23 : decode cX7_reading 23 = .ok (.ireturn, 1) := by decide +kernel
theorem dX7_reading_24 : decode cX7_reading 24 = .ok (.aload_n 0, 1) := by decide +kernel
theorem dX7_reading_25 : decode cX7_reading 25 = .ok (.iload_n 3, 1) := by decide +kernel
theorem dX7_reading_26 : decode cX7_reading 26 = .ok (.invokevirtual 168, 3) := by decide +kernel
theorem dX7_reading_29 : decode cX7_reading 29 = .ok (.ifCond .eq 6, 3) := by decide +kernel
theorem dX7_reading_32 : decode cX7_reading 32 = .ok (.bipush (-2), 2) := by decide +kernel
theorem dX7_reading_34 : decode cX7_reading 34 = .ok (.ireturn, 1) := by decide +kernel
theorem dX7_reading_35 : decode cX7_reading 35 = .ok (.aload_n 0, 1) := by decide +kernel
theorem dX7_reading_36 : decode cX7_reading 36 = .ok (.getfield 156, 3) := by decide +kernel
theorem dX7_reading_39 : decode cX7_reading 39 = .ok (.bipush 8, 2) := by decide +kernel
theorem dX7_reading_41 : decode cX7_reading 41 = .ok (.if_icmp .ne 6, 3) := by decide +kernel
theorem dX7_reading_44 : decode cX7_reading 44 = .ok (.bipush (-4), 2) := by decide +kernel
theorem dX7_reading_46 : decode cX7_reading 46 = .ok (.ireturn, 1) := by decide +kernel
theorem dX7_reading_47 : decode cX7_reading 47 = .ok (.aload_n 0, 1) := by decide +kernel
theorem dX7_reading_48 : decode cX7_reading 48 = .ok (.getfield 52, 3) := by decide +kernel
theorem dX7_reading_51 : decode cX7_reading 51 = .ok (.aload_n 0, 1) := by decide +kernel
theorem dX7_reading_52 : decode cX7_reading 52 = .ok (.getfield 156, 3) := by decide +kernel
theorem dX7_reading_55 : decode cX7_reading 55 = .ok (.iload_n 1, 1) := by decide +kernel
theorem dX7_reading_56 : decode cX7_reading 56 = .ok (.iastore, 1) := by decide +kernel
theorem dX7_reading_57 : decode cX7_reading 57 = .ok (.aload_n 0, 1) := by decide +kernel
theorem dX7_reading_58 : decode cX7_reading 58 = .ok (.getfield 55, 3) := by decide +kernel
theorem dX7_reading_61 : decode cX7_reading 61 = .ok (.aload_n 0, 1) := by decide +kernel
theorem dX7_reading_62 : decode cX7_reading 62 = .ok (.getfield 156, 3) := by decide +kernel
theorem dX7_reading_65 : decode cX7_reading 65 = .ok (.iload_n 2, 1) := by decide +kernel
theorem dX7_reading_66 : decode cX7_reading 66 = .ok (.iastore, 1) := by decide +kernel
theorem dX7_reading_67 : decode cX7_reading 67 = .ok (.aload_n 0, 1) := by decide +kernel
theorem dX7_reading_68 : decode cX7_reading 68 = .ok (.getfield 58, 3) := by decide +kernel
theorem dX7_reading_71 : decode cX7_reading 71 = .ok (.aload_n 0, 1) := by decide +kernel
theorem dX7_reading_72 : decode cX7_reading 72 = .ok (.getfield 156, 3) := by decide +kernel
theorem dX7_reading_75 : decode cX7_reading 75 = .ok (.iload_n 3, 1) := by decide +kernel
theorem dX7_reading_76 : decode cX7_reading 76 = .ok (.iastore, 1) := by decide +kernel
theorem dX7_reading_77 : decode cX7_reading 77 = .ok (.aload_n 0, 1) := by decide +kernel
theorem dX7_reading_78 : decode cX7_reading 78 = .ok (.dup, 1) := by decide +kernel
theorem dX7_reading_79 : decode cX7_reading 79 = .ok (.getfield 156, 3) := by decide +kernel
theorem dX7_reading_82 : decode cX7_reading 82 = .ok (.iconst 1, 1) := by decide +kernel
theorem dX7_reading_83 : decode cX7_reading 83 = .ok (.iadd, 1) := by decide +kernel
theorem dX7_reading_84 : decode cX7_reading 84 = .ok (.putfield 156, 3) := by decide +kernel
theorem dX7_reading_87 : decode cX7_reading 87 = .ok (.aload_n 0, 1) := by decide +kernel
theorem dX7_reading_88 : decode cX7_reading 88 = .ok (.getfield 156, 3) := by decide +kernel
theorem dX7_reading_91 : decode cX7_reading 91 = .ok (.iconst 1, 1) := by decide +kernel
theorem dX7_reading_92 : decode cX7_reading 92 = .ok (.isub, 1) := by decide +kernel
theorem dX7_reading_93 : decode cX7_reading 93 = .ok (.ireturn, 1) := by decide +kernel
theorem dX7_back_0 : decode cX7_back 0 = .ok (.iload_n 1, 1) := by decide +kernel
theorem dX7_back_1 : decode cX7_back 1 = .ok (.i2l, 1) := by decide +kernel
theorem dX7_back_2 : decode cX7_back 2 = .ok (.lconst 0, 1) := by decide +kernel
theorem dX7_back_3 : decode cX7_back 3 = .ok (.aload_n 0, 1) := by decide +kernel
theorem dX7_back_4 : decode cX7_back 4 = .ok (.getfield 156, 3) := by decide +kernel
theorem dX7_back_7 : decode cX7_back 7 = .ok (.i2l, 1) := by decide +kernel
theorem dX7_back_8 : decode cX7_back 8 = .ok (.invokestatic 89, 3) := by decide +kernel
theorem dX7_back_11 : decode cX7_back 11 = .ok (.ifCond .ne 6, 3) := by decide +kernel
theorem dX7_back_14 : decode cX7_back 14 = .ok (.bipush (-2), 2) := by decide +kernel
theorem dX7_back_16 : decode cX7_back 16 = .ok (.ireturn, 1) := by decide +kernel
theorem dX7_back_17 : decode cX7_back 17 = .ok (.aload_n 0, 1) := by decide +kernel
theorem dX7_back_18 : decode cX7_back 18 = .ok (.dup, 1) := by decide +kernel
theorem dX7_back_19 : decode cX7_back 19 = .ok (.getfield 156, 3) := by decide +kernel
theorem dX7_back_22 : decode cX7_back 22 = .ok (.iload_n 1, 1) := by decide +kernel
theorem dX7_back_23 : decode cX7_back 23 = .ok (.isub, 1) := by decide +kernel
theorem dX7_back_24 : decode cX7_back 24 = .ok (.putfield 156, 3) := by decide +kernel
theorem dX7_back_27 : decode cX7_back 27 = .ok (.aload_n 0, 1) := by decide +kernel
theorem dX7_back_28 : decode cX7_back 28 = .ok (.getfield 156, 3) := by decide +kernel
theorem dX7_back_31 : decode cX7_back 31 = .ok (.ireturn, 1) := by decide +kernel
theorem dX7_areSo_0 : decode cX7_areSo 0 = .ok (.aload_n 0, 1) := by decide +kernel
theorem dX7_areSo_1 : decode cX7_areSo 1 = .ok (.invokevirtual 186, 3) := by decide +kernel
theorem dX7_areSo_4 : decode cX7_areSo 4 = .ok (.iconst 1, 1) := by decide +kernel
theorem dX7_areSo_5 : decode cX7_areSo 5 = .ok (.istore_n 1, 1) := by decide +kernel
theorem dX7_areSo_6 : decode cX7_areSo 6 = .ok (.iconst 0, 1) := by decide +kernel
theorem dX7_areSo_7 : decode cX7_areSo 7 = .ok (.istore_n 2, 1) := by decide +kernel
theorem dX7_areSo_8 : decode cX7_areSo 8 = .ok (.iload_n 2, 1) := by decide +kernel
theorem dX7_areSo_9 : decode cX7_areSo 9 = .ok (.aload_n 0, 1) := by decide +kernel
theorem dX7_areSo_10 : decode cX7_areSo 10 = .ok (.getfield 96, 3) := by decide +kernel
theorem dX7_areSo_13 : decode cX7_areSo 13 = .ok (.if_icmp .ge 70, 3) := by decide +kernel
theorem dX7_areSo_16 : decode cX7_areSo 16 = .ok (.aload_n 0, 1) := by decide +kernel
theorem dX7_areSo_17 : decode cX7_areSo 17 = .ok (.iload_n 2, 1) := by decide +kernel
theorem dX7_areSo_18 : decode cX7_areSo 18 = .ok (.invokevirtual 189, 3) := by decide +kernel
theorem dX7_areSo_21 : decode cX7_areSo 21 = .ok (.iconst 0, 1) := by decide +kernel
theorem dX7_areSo_22 : decode cX7_areSo 22 = .ok (.istore_n 3, 1) := by decide +kernel
theorem dX7_areSo_23 : decode cX7_areSo 23 = .ok (.iload_n 3, 1) := by decide +kernel
theorem dX7_areSo_24 : decode cX7_areSo 24 = .ok (.aload_n 0, 1) := by decide +kernel
theorem dX7_areSo_25 : decode cX7_areSo 25 = .ok (.getfield 156, 3) := by decide +kernel
theorem dX7_areSo_28 : decode cX7_areSo 28 = .ok (.if_icmp .ge 49, 3) := by decide +kernel
theorem dX7_areSo_31 : decode cX7_areSo 31 = .ok (.iload_n 1, 1) := by decide +kernel
theorem dX7_areSo_32 : decode cX7_areSo 32 = .ok (.ifCond .eq 37, 3) := by decide +kernel
theorem dX7_areSo_35 : decode cX7_areSo 35 = .ok (.aload_n 0, 1) := by decide +kernel
theorem dX7_areSo_36 : decode cX7_areSo 36 = .ok (.getfield 58, 3) := by decide +kernel
theorem dX7_areSo_39 : decode cX7_areSo 39 = .ok (.iload_n 3, 1) := by decide +kernel
theorem dX7_areSo_40 : decode cX7_areSo 40 = .ok (.iaload, 1) := by decide +kernel
theorem dX7_areSo_41 : decode cX7_areSo 41 = .ok (.iload_n 2, 1) := by decide +kernel
theorem dX7_areSo_42 : decode cX7_areSo 42 = .ok (.if_icmp .ne 23, 3) := by decide +kernel
theorem dX7_areSo_45 : decode cX7_areSo 45 = .ok (.aload_n 0, 1) := by decide +kernel
theorem dX7_areSo_46 : decode cX7_areSo 46 = .ok (.getfield 46, 3) := by decide +kernel
theorem dX7_areSo_49 : decode cX7_areSo 49 = .ok (.aload_n 0, 1) := by decide +kernel
theorem dX7_areSo_50 : decode cX7_areSo 50 = .ok (.getfield 52, 3) := by decide +kernel
theorem dX7_areSo_53 : decode cX7_areSo 53 = .ok (.iload_n 3, 1) := by decide +kernel
theorem dX7_areSo_54 : decode cX7_areSo 54 = .ok (.iaload, 1) := by decide +kernel
theorem dX7_areSo_55 : decode cX7_areSo 55 = .ok (.iaload, 1) := by decide +kernel
theorem dX7_areSo_56 : decode cX7_areSo 56 = .ok (.aload_n 0, 1) := by decide +kernel
theorem dX7_areSo_57 : decode cX7_areSo 57 = .ok (.getfield 55, 3) := by decide +kernel
theorem dX7_areSo_60 : decode cX7_areSo 60 = .ok (.iload_n 3, 1) := by decide +kernel
theorem dX7_areSo_61 : decode cX7_areSo 61 = .ok (.iaload, 1) := by decide +kernel
theorem dX7_areSo_62 : decode cX7_areSo 62 = .ok (.if_icmp .ne 7, 3) := by decide +kernel
theorem dX7_areSo_65 : decode cX7_areSo 65 = .ok (.iconst 1, 1) := by decide +kernel
theorem dX7_areSo_66 : decode cX7_areSo 66 = .ok (.goto 4, 3) := by decide +kernel
theorem dX7_areSo_69 : decode cX7_areSo 69 = .ok (.iconst 0, 1) := by decide +kernel
theorem dX7_areSo_70 : decode cX7_areSo 70 = .ok (.istore_n 1, 1) := by decide +kernel
theorem dX7_areSo_71 : decode cX7_areSo 71 = .ok (.iinc 3 1, 3) := by decide +kernel
theorem dX7_areSo_74 : decode cX7_areSo 74 = .ok (.goto (-51), 3) := by decide +kernel
theorem dX7_areSo_77 : decode cX7_areSo 77 = .ok (.iinc 2 1, 3) := by decide +kernel
theorem dX7_areSo_80 : decode cX7_areSo 80 = .ok (.goto (-72), 3) := by decide +kernel
theorem dX7_areSo_83 : decode cX7_areSo 83 = .ok (.iload_n 1, 1) := by decide +kernel
theorem dX7_areSo_84 : decode cX7_areSo 84 = .ok (.ireturn, 1) := by decide +kernel
theorem dX7_rules_0 : decode cX7_rules 0 = .ok (.aload_n 0, 1) := by decide +kernel
theorem dX7_rules_1 : decode cX7_rules 1 = .ok (.getfield 86, 3) := by decide +kernel
theorem dX7_rules_4 : decode cX7_rules 4 = .ok (.ifCond .ne 6, 3) := by decide +kernel
theorem dX7_rules_7 : decode cX7_rules 7 = .ok (.bipush (-3), 2) := by decide +kernel
theorem dX7_rules_9 : decode cX7_rules 9 = .ok (.ireturn, 1) := by decide +kernel
theorem dX7_rules_10 : decode cX7_rules 10 = .ok (.aload_n 0, 1) := by decide +kernel
theorem dX7_rules_11 : decode cX7_rules 11 = .ok (.getfield 153, 3) := by decide +kernel
theorem dX7_rules_14 : decode cX7_rules 14 = .ok (.istore_n 1, 1) := by decide +kernel
theorem dX7_rules_15 : decode cX7_rules 15 = .ok (.iconst 0, 1) := by decide +kernel
theorem dX7_rules_16 : decode cX7_rules 16 = .ok (.istore_n 2, 1) := by decide +kernel
theorem dX7_rules_17 : decode cX7_rules 17 = .ok (.iconst 0, 1) := by decide +kernel
theorem dX7_rules_18 : decode cX7_rules 18 = .ok (.istore_n 3, 1) := by decide +kernel
theorem dX7_rules_19 : decode cX7_rules 19 = .ok (.iload_n 3, 1) := by decide +kernel
theorem dX7_rules_20 : decode cX7_rules 20 = .ok (.iconst 2, 1) := by decide +kernel
theorem dX7_rules_21 : decode cX7_rules 21 = .ok (.if_icmp .ge 31, 3) := by decide +kernel
theorem dX7_rules_24 : decode cX7_rules 24 = .ok (.aload_n 0, 1) := by decide +kernel
theorem dX7_rules_25 : decode cX7_rules 25 = .ok (.iload_n 3, 1) := by decide +kernel
theorem dX7_rules_26 : decode cX7_rules 26 = .ok (.putfield 153, 3) := by decide +kernel
theorem dX7_rules_29 : decode cX7_rules 29 = .ok (.iload_n 2, 1) := by decide +kernel
theorem dX7_rules_30 : decode cX7_rules 30 = .ok (.aload_n 0, 1) := by decide +kernel
theorem dX7_rules_31 : decode cX7_rules 31 = .ok (.invokevirtual 218, 3) := by decide +kernel
theorem dX7_rules_34 : decode cX7_rules 34 = .ok (.ifCond .eq 9, 3) := by decide +kernel
theorem dX7_rules_37 : decode cX7_rules 37 = .ok (.iconst 1, 1) := by decide +kernel
theorem dX7_rules_38 : decode cX7_rules 38 = .ok (.iload_n 3, 1) := by decide +kernel
theorem dX7_rules_39 : decode cX7_rules 39 = .ok (.ishl, 1) := by decide +kernel
theorem dX7_rules_40 : decode cX7_rules 40 = .ok (.goto 4, 3) := by decide +kernel
theorem dX7_rules_43 : decode cX7_rules 43 = .ok (.iconst 0, 1) := by decide +kernel
theorem dX7_rules_44 : decode cX7_rules 44 = .ok (.ior, 1) := by decide +kernel
theorem dX7_rules_45 : decode cX7_rules 45 = .ok (.istore_n 2, 1) := by decide +kernel
theorem dX7_rules_46 : decode cX7_rules 46 = .ok (.iinc 3 1, 3) := by decide +kernel
theorem dX7_rules_49 : decode cX7_rules 49 = .ok (.goto (-30), 3) := by decide +kernel
theorem dX7_rules_52 : decode cX7_rules 52 = .ok (.aload_n 0, 1) := by decide +kernel
theorem dX7_rules_53 : decode cX7_rules 53 = .ok (.iload_n 1, 1) := by decide +kernel
theorem dX7_rules_54 : decode cX7_rules 54 = .ok (.putfield 153, 3) := by decide +kernel
theorem dX7_rules_57 : decode cX7_rules 57 = .ok (.iload_n 2, 1) := by decide +kernel
theorem dX7_rules_58 : decode cX7_rules 58 = .ok (.ireturn, 1) := by decide +kernel
theorem dX7_kinds_0 : decode cX7_kinds 0 = .ok (.aload_n 0, 1) := by decide +kernel
theorem dX7_kinds_1 : decode cX7_kinds 1 = .ok (.iload_n 1, 1) := by decide +kernel
theorem dX7_kinds_2 : decode cX7_kinds 2 = .ok (.invokevirtual 159, 3) := by decide +kernel
theorem dX7_kinds_5 : decode cX7_kinds 5 = .ok (.ifCond .eq 5, 3) := by decide +kernel
theorem dX7_kinds_8 : decode cX7_kinds 8 = .ok (.iconst (-1), 1) := by decide +kernel
theorem dX7_kinds_9 : decode cX7_kinds 9 = .ok (.ireturn, 1) := by decide +kernel
theorem dX7_kinds_10 : decode cX7_kinds 10 = .ok (.aload_n 0, 1) := by decide +kernel
theorem dX7_kinds_11 : decode cX7_kinds 11 = .ok (.getfield 7, 3) := by decide +kernel
theorem dX7_kinds_14 : decode cX7_kinds 14 = .ok (.iload_n 1, 1) := by decide +kernel
theorem dX7_kinds_15 : decode cX7_kinds 15 = .ok (.iaload, 1) := by decide +kernel
theorem dX7_kinds_16 : decode cX7_kinds 16 = .ok (.istore_n 2, 1) := by decide +kernel
theorem dX7_kinds_17 : decode cX7_kinds 17 = .ok (.iconst 0, 1) := by decide +kernel
theorem dX7_kinds_18 : decode cX7_kinds 18 = .ok (.istore_n 3, 1) := by decide +kernel
theorem dX7_kinds_19 : decode cX7_kinds 19 = .ok (.iconst 0, 1) := by decide +kernel
theorem dX7_kinds_20 : decode cX7_kinds 20 = .ok (.istore 4, 2) := by decide +kernel
theorem dX7_kinds_22 : decode cX7_kinds 22 = .ok (.iload 4, 2) := by decide +kernel
theorem dX7_kinds_24 : decode cX7_kinds 24 = .ok (.iconst 3, 1) := by decide +kernel
theorem dX7_kinds_25 : decode cX7_kinds 25 = .ok (.if_icmp .ge 35, 3) := by decide +kernel
theorem dX7_kinds_28 : decode cX7_kinds 28 = .ok (.aload_n 0, 1) := by decide +kernel
theorem dX7_kinds_29 : decode cX7_kinds 29 = .ok (.getfield 7, 3) := by decide +kernel
theorem dX7_kinds_32 : decode cX7_kinds 32 = .ok (.iload_n 1, 1) := by decide +kernel
theorem dX7_kinds_33 : decode cX7_kinds 33 = .ok (.iload 4, 2) := by decide +kernel
theorem dX7_kinds_35 : decode cX7_kinds 35 = .ok (.iastore, 1) := by decide +kernel
theorem dX7_kinds_36 : decode cX7_kinds 36 = .ok (.iload_n 3, 1) := by decide +kernel
theorem dX7_kinds_37 : decode cX7_kinds 37 = .ok (.aload_n 0, 1) := by decide +kernel
theorem dX7_kinds_38 : decode cX7_kinds 38 = .ok (.invokevirtual 218, 3) := by decide +kernel
theorem dX7_kinds_41 : decode cX7_kinds 41 = .ok (.ifCond .eq 10, 3) := by decide +kernel
theorem dX7_kinds_44 : decode cX7_kinds 44 = .ok (.iconst 1, 1) := by decide +kernel
theorem dX7_kinds_45 : decode cX7_kinds 45 = .ok (.iload 4, 2) := by decide +kernel
theorem dX7_kinds_47 : decode cX7_kinds 47 = .ok (.ishl, 1) := by decide +kernel
theorem dX7_kinds_48 : decode cX7_kinds 48 = .ok (.goto 4, 3) := by decide +kernel
theorem dX7_kinds_51 : decode cX7_kinds 51 = .ok (.iconst 0, 1) := by decide +kernel
theorem dX7_kinds_52 : decode cX7_kinds 52 = .ok (.ior, 1) := by decide +kernel
theorem dX7_kinds_53 : decode cX7_kinds 53 = .ok (.istore_n 3, 1) := by decide +kernel
theorem dX7_kinds_54 : decode cX7_kinds 54 = .ok (.iinc 4 1, 3) := by decide +kernel
theorem dX7_kinds_57 : decode cX7_kinds 57 = .ok (.goto (-35), 3) := by decide +kernel
theorem dX7_kinds_60 : decode cX7_kinds 60 = .ok (.aload_n 0, 1) := by decide +kernel
theorem dX7_kinds_61 : decode cX7_kinds 61 = .ok (.getfield 7, 3) := by decide +kernel
theorem dX7_kinds_64 : decode cX7_kinds 64 = .ok (.iload_n 1, 1) := by decide +kernel
theorem dX7_kinds_65 : decode cX7_kinds 65 = .ok (.iload_n 2, 1) := by decide +kernel
theorem dX7_kinds_66 : decode cX7_kinds 66 = .ok (.iastore, 1) := by decide +kernel
theorem dX7_kinds_67 : decode cX7_kinds 67 = .ok (.iload_n 3, 1) := by decide +kernel
theorem dX7_kinds_68 : decode cX7_kinds 68 = .ok (.ireturn, 1) := by decide +kernel
theorem dX7_depths_0 : decode cX7_depths 0 = .ok (.aload_n 0, 1) := by decide +kernel
theorem dX7_depths_1 : decode cX7_depths 1 = .ok (.iload_n 1, 1) := by decide +kernel
theorem dX7_depths_2 : decode cX7_depths 2 = .ok (.invokevirtual 159, 3) := by decide +kernel
theorem dX7_depths_5 : decode cX7_depths 5 = .ok (.ifCond .eq 5, 3) := by decide +kernel
theorem dX7_depths_8 : decode cX7_depths 8 = .ok (.iconst (-1), 1) := by decide +kernel
theorem dX7_depths_9 : decode cX7_depths 9 = .ok (.ireturn, 1) := by decide +kernel
theorem dX7_depths_10 : decode cX7_depths 10 = .ok (.aload_n 0, 1) := by decide +kernel
theorem dX7_depths_11 : decode cX7_depths 11 = .ok (.getfield 13, 3) := by decide +kernel
theorem dX7_depths_14 : decode cX7_depths 14 = .ok (.iload_n 1, 1) := by decide +kernel
theorem dX7_depths_15 : decode cX7_depths 15 = .ok (.iaload, 1) := by decide +kernel
theorem dX7_depths_16 : decode cX7_depths 16 = .ok (.istore_n 2, 1) := by decide +kernel
theorem dX7_depths_17 : decode cX7_depths 17 = .ok (.iconst 0, 1) := by decide +kernel
theorem dX7_depths_18 : decode cX7_depths 18 = .ok (.istore_n 3, 1) := by decide +kernel
theorem dX7_depths_19 : decode cX7_depths 19 = .ok (.iconst 0, 1) := by decide +kernel
theorem dX7_depths_20 : decode cX7_depths 20 = .ok (.istore 4, 2) := by decide +kernel
theorem dX7_depths_22 : decode cX7_depths 22 = .ok (.iload 4, 2) := by decide +kernel
theorem dX7_depths_24 : decode cX7_depths 24 = .ok (.bipush 10, 2) := by decide +kernel
theorem dX7_depths_26 : decode cX7_depths 26 = .ok (.if_icmp .ge 35, 3) := by decide +kernel
theorem dX7_depths_29 : decode cX7_depths 29 = .ok (.aload_n 0, 1) := by decide +kernel
theorem dX7_depths_30 : decode cX7_depths 30 = .ok (.getfield 13, 3) := by decide +kernel
theorem dX7_depths_33 : decode cX7_depths 33 = .ok (.iload_n 1, 1) := by decide +kernel
theorem dX7_depths_34 : decode cX7_depths 34 = .ok (.iload 4, 2) := by decide +kernel
theorem dX7_depths_36 : decode cX7_depths 36 = .ok (.iastore, 1) := by decide +kernel
theorem dX7_depths_37 : decode cX7_depths 37 = .ok (.iload_n 3, 1) := by decide +kernel
theorem dX7_depths_38 : decode cX7_depths 38 = .ok (.aload_n 0, 1) := by decide +kernel
theorem dX7_depths_39 : decode cX7_depths 39 = .ok (.invokevirtual 218, 3) := by decide +kernel
theorem dX7_depths_42 : decode cX7_depths 42 = .ok (.ifCond .eq 10, 3) := by decide +kernel
theorem dX7_depths_45 : decode cX7_depths 45 = .ok (.iconst 1, 1) := by decide +kernel
theorem dX7_depths_46 : decode cX7_depths 46 = .ok (.iload 4, 2) := by decide +kernel
theorem dX7_depths_48 : decode cX7_depths 48 = .ok (.ishl, 1) := by decide +kernel
theorem dX7_depths_49 : decode cX7_depths 49 = .ok (.goto 4, 3) := by decide +kernel
theorem dX7_depths_52 : decode cX7_depths 52 = .ok (.iconst 0, 1) := by decide +kernel
theorem dX7_depths_53 : decode cX7_depths 53 = .ok (.ior, 1) := by decide +kernel
theorem dX7_depths_54 : decode cX7_depths 54 = .ok (.istore_n 3, 1) := by decide +kernel
theorem dX7_depths_55 : decode cX7_depths 55 = .ok (.iinc 4 1, 3) := by decide +kernel
theorem dX7_depths_58 : decode cX7_depths 58 = .ok (.goto (-36), 3) := by decide +kernel
theorem dX7_depths_61 : decode cX7_depths 61 = .ok (.aload_n 0, 1) := by decide +kernel
theorem dX7_depths_62 : decode cX7_depths 62 = .ok (.getfield 13, 3) := by decide +kernel
theorem dX7_depths_65 : decode cX7_depths 65 = .ok (.iload_n 1, 1) := by decide +kernel
theorem dX7_depths_66 : decode cX7_depths 66 = .ok (.iload_n 2, 1) := by decide +kernel
theorem dX7_depths_67 : decode cX7_depths 67 = .ok (.iastore, 1) := by decide +kernel
theorem dX7_depths_68 : decode cX7_depths 68 = .ok (.iload_n 3, 1) := by decide +kernel
theorem dX7_depths_69 : decode cX7_depths 69 = .ok (.ireturn, 1) := by decide +kernel
theorem dX7_falls_0 : decode cX7_falls 0 = .ok (.aload_n 0, 1) := by decide +kernel
theorem dX7_falls_1 : decode cX7_falls 1 = .ok (.getfield 86, 3) := by decide +kernel
theorem dX7_falls_4 : decode cX7_falls 4 = .ok (.ifCond .ne 6, 3) := by decide +kernel
theorem dX7_falls_7 : decode cX7_falls 7 = .ok (.bipush (-3), 2) := by decide +kernel
theorem dX7_falls_9 : decode cX7_falls 9 = .ok (.ireturn, 1) := by decide +kernel
theorem dX7_falls_10 : decode cX7_falls 10 = .ok (.aload_n 0, 1) := by decide +kernel
theorem dX7_falls_11 : decode cX7_falls 11 = .ok (.iload_n 1, 1) := by decide +kernel
theorem dX7_falls_12 : decode cX7_falls 12 = .ok (.invokevirtual 168, 3) := by decide +kernel
theorem dX7_falls_15 : decode cX7_falls 15 = .ok (.ifCond .eq 6, 3) := by decide +kernel
theorem dX7_falls_18 : decode cX7_falls 18 = .ok (.bipush (-2), 2) := by decide +kernel
theorem dX7_falls_20 : decode cX7_falls 20 = .ok (.ireturn, 1) := by decide +kernel
theorem dX7_falls_21 : decode cX7_falls 21 = .ok (.aload_n 0, 1) := by decide +kernel
theorem dX7_falls_22 : decode cX7_falls 22 = .ok (.getfield 19, 3) := by decide +kernel
theorem dX7_falls_25 : decode cX7_falls 25 = .ok (.iload_n 1, 1) := by decide +kernel
theorem dX7_falls_26 : decode cX7_falls 26 = .ok (.iaload, 1) := by decide +kernel
theorem dX7_falls_27 : decode cX7_falls 27 = .ok (.istore_n 2, 1) := by decide +kernel
theorem dX7_falls_28 : decode cX7_falls 28 = .ok (.iconst 0, 1) := by decide +kernel
theorem dX7_falls_29 : decode cX7_falls 29 = .ok (.istore_n 3, 1) := by decide +kernel
theorem dX7_falls_30 : decode cX7_falls 30 = .ok (.iconst 0, 1) := by decide +kernel
theorem dX7_falls_31 : decode cX7_falls 31 = .ok (.istore 4, 2) := by decide +kernel
theorem dX7_falls_33 : decode cX7_falls 33 = .ok (.iload 4, 2) := by decide +kernel
theorem dX7_falls_35 : decode cX7_falls 35 = .ok (.bipush 6, 2) := by decide +kernel
theorem dX7_falls_37 : decode cX7_falls 37 = .ok (.if_icmp .ge 35, 3) := by decide +kernel
theorem dX7_falls_40 : decode cX7_falls 40 = .ok (.aload_n 0, 1) := by decide +kernel
theorem dX7_falls_41 : decode cX7_falls 41 = .ok (.getfield 19, 3) := by decide +kernel
theorem dX7_falls_44 : decode cX7_falls 44 = .ok (.iload_n 1, 1) := by decide +kernel
theorem dX7_falls_45 : decode cX7_falls 45 = .ok (.iload 4, 2) := by decide +kernel
theorem dX7_falls_47 : decode cX7_falls 47 = .ok (.iastore, 1) := by decide +kernel
theorem dX7_falls_48 : decode cX7_falls 48 = .ok (.iload_n 3, 1) := by decide +kernel
theorem dX7_falls_49 : decode cX7_falls 49 = .ok (.aload_n 0, 1) := by decide +kernel
theorem dX7_falls_50 : decode cX7_falls 50 = .ok (.invokevirtual 218, 3) := by decide +kernel
theorem dX7_falls_53 : decode cX7_falls 53 = .ok (.ifCond .eq 10, 3) := by decide +kernel
end
section
theorem dX7_falls_56 : decode cX7_falls 56 = .ok (.iconst 1, 1) := by decide +kernel
theorem dX7_falls_57 : decode cX7_falls 57 = .ok (.iload 4, 2) := by decide +kernel
theorem dX7_falls_59 : decode cX7_falls 59 = .ok (.ishl, 1) := by decide +kernel
theorem dX7_falls_60 : decode cX7_falls 60 = .ok (.goto 4, 3) := by decide +kernel
theorem dX7_falls_63 : decode cX7_falls 63 = .ok (.iconst 0, 1) := by decide +kernel
theorem dX7_falls_64 : decode cX7_falls 64 = .ok (.ior, 1) := by decide +kernel
theorem dX7_falls_65 : decode cX7_falls 65 = .ok (.istore_n 3, 1) := by decide +kernel
theorem dX7_falls_66 : decode cX7_falls 66 = .ok (.iinc 4 1, 3) := by decide +kernel
theorem dX7_falls_69 : decode cX7_falls 69 = .ok (.goto (-36), 3) := by decide +kernel
theorem dX7_falls_72 : decode cX7_falls 72 = .ok (.aload_n 0, 1) := by decide +kernel
theorem dX7_falls_73 : decode cX7_falls 73 = .ok (.getfield 19, 3) := by decide +kernel
theorem dX7_falls_76 : decode cX7_falls 76 = .ok (.iload_n 1, 1) := by decide +kernel
theorem dX7_falls_77 : decode cX7_falls 77 = .ok (.iload_n 2, 1) := by decide +kernel
theorem dX7_falls_78 : decode cX7_falls 78 = .ok (.iastore, 1) := by decide +kernel
theorem dX7_falls_79 : decode cX7_falls 79 = .ok (.iload_n 3, 1) := by decide +kernel
theorem dX7_falls_80 : decode cX7_falls 80 = .ok (.ireturn, 1) := by decide +kernel
theorem dX7_blow_0 : decode cX7_blow 0 = .ok (.iconst 0, 1) := by decide +kernel
theorem dX7_blow_1 : decode cX7_blow 1 = .ok (.istore_n 3, 1) := by decide +kernel
theorem dX7_blow_2 : decode cX7_blow 2 = .ok (.iload_n 3, 1) := by decide +kernel
theorem dX7_blow_3 : decode cX7_blow 3 = .ok (.iload_n 2, 1) := by decide +kernel
theorem dX7_blow_4 : decode cX7_blow 4 = .ok (.if_icmp .ge 20, 3) := by decide +kernel
theorem dX7_blow_7 : decode cX7_blow 7 = .ok (.aload_n 0, 1) := by decide +kernel
theorem dX7_blow_8 : decode cX7_blow 8 = .ok (.getfield 16, 3) := by decide +kernel
theorem dX7_blow_11 : decode cX7_blow 11 = .ok (.iload_n 3, 1) := by decide +kernel
theorem dX7_blow_12 : decode cX7_blow 12 = .ok (.iload_n 1, 1) := by decide +kernel
theorem dX7_blow_13 : decode cX7_blow 13 = .ok (.iload_n 3, 1) := by decide +kernel
theorem dX7_blow_14 : decode cX7_blow 14 = .ok (.ishr, 1) := by decide +kernel
theorem dX7_blow_15 : decode cX7_blow 15 = .ok (.iconst 1, 1) := by decide +kernel
theorem dX7_blow_16 : decode cX7_blow 16 = .ok (.iand, 1) := by decide +kernel
theorem dX7_blow_17 : decode cX7_blow 17 = .ok (.iastore, 1) := by decide +kernel
theorem dX7_blow_18 : decode cX7_blow 18 = .ok (.iinc 3 1, 3) := by decide +kernel
theorem dX7_blow_21 : decode cX7_blow 21 = .ok (.goto (-19), 3) := by decide +kernel
theorem dX7_blow_24 : decode cX7_blow 24 = .ok (.return_, 1) := by decide +kernel
theorem dX7_odds_0 : decode cX7_odds 0 = .ok (.aload_n 0, 1) := by decide +kernel
theorem dX7_odds_1 : decode cX7_odds 1 = .ok (.iload_n 1, 1) := by decide +kernel
theorem dX7_odds_2 : decode cX7_odds 2 = .ok (.invokevirtual 202, 3) := by decide +kernel
theorem dX7_odds_5 : decode cX7_odds 5 = .ok (.ifCond .ne 27, 3) := by decide +kernel
theorem dX7_odds_8 : decode cX7_odds 8 = .ok (.iload_n 2, 1) := by decide +kernel
theorem dX7_odds_9 : decode cX7_odds 9 = .ok (.i2l, 1) := by decide +kernel
theorem dX7_odds_10 : decode cX7_odds 10 = .ok (.lconst 0, 1) := by decide +kernel
theorem dX7_odds_11 : decode cX7_odds 11 = .ok (.aload_n 0, 1) := by decide +kernel
theorem dX7_odds_12 : decode cX7_odds 12 = .ok (.getfield 96, 3) := by decide +kernel
theorem dX7_odds_15 : decode cX7_odds 15 = .ok (.i2l, 1) := by decide +kernel
theorem dX7_odds_16 : decode cX7_odds 16 = .ok (.invokestatic 89, 3) := by decide +kernel
theorem dX7_odds_19 : decode cX7_odds 19 = .ok (.ifCond .eq 13, 3) := by decide +kernel
theorem dX7_odds_22 : decode cX7_odds 22 = .ok (.iload_n 3, 1) := by decide +kernel
theorem dX7_odds_23 : decode cX7_odds 23 = .ok (.i2l, 1) := by decide +kernel
theorem dX7_odds_24 : decode cX7_odds 24 = .ok (.lconst 0, 1) := by decide +kernel
theorem dX7_odds_25 : decode cX7_odds 25 = .ok (.lconst 1, 1) := by decide +kernel
theorem dX7_odds_26 : decode cX7_odds 26 = .ok (.invokestatic 89, 3) := by decide +kernel
theorem dX7_odds_29 : decode cX7_odds 29 = .ok (.ifCond .ne 7, 3) := by decide +kernel
theorem dX7_odds_32 : decode cX7_odds 32 = .ok (.invokestatic 82, 3) := by decide +kernel
theorem dX7_odds_35 : decode cX7_odds 35 = .ok (.lreturn, 1) := by decide +kernel
theorem dX7_odds_36 : decode cX7_odds 36 = .ok (.iconst 0, 1) := by decide +kernel
theorem dX7_odds_37 : decode cX7_odds 37 = .ok (.istore 4, 2) := by decide +kernel
theorem dX7_odds_39 : decode cX7_odds 39 = .ok (.iconst 0, 1) := by decide +kernel
theorem dX7_odds_40 : decode cX7_odds 40 = .ok (.istore 5, 2) := by decide +kernel
theorem dX7_odds_42 : decode cX7_odds 42 = .ok (.iload 5, 2) := by decide +kernel
theorem dX7_odds_44 : decode cX7_odds 44 = .ok (.iload_n 2, 1) := by decide +kernel
theorem dX7_odds_45 : decode cX7_odds 45 = .ok (.if_icmp .ge 24, 3) := by decide +kernel
theorem dX7_odds_48 : decode cX7_odds 48 = .ok (.iload 4, 2) := by decide +kernel
theorem dX7_odds_50 : decode cX7_odds 50 = .ok (.aload_n 0, 1) := by decide +kernel
theorem dX7_odds_51 : decode cX7_odds 51 = .ok (.getfield 16, 3) := by decide +kernel
theorem dX7_odds_54 : decode cX7_odds 54 = .ok (.iload 5, 2) := by decide +kernel
theorem dX7_odds_56 : decode cX7_odds 56 = .ok (.iaload, 1) := by decide +kernel
theorem dX7_odds_57 : decode cX7_odds 57 = .ok (.iload 5, 2) := by decide +kernel
theorem dX7_odds_59 : decode cX7_odds 59 = .ok (.ishl, 1) := by decide +kernel
theorem dX7_odds_60 : decode cX7_odds 60 = .ok (.ior, 1) := by decide +kernel
theorem dX7_odds_61 : decode cX7_odds 61 = .ok (.istore 4, 2) := by decide +kernel
theorem dX7_odds_63 : decode cX7_odds 63 = .ok (.iinc 5 1, 3) := by decide +kernel
theorem dX7_odds_66 : decode cX7_odds 66 = .ok (.goto (-24), 3) := by decide +kernel
theorem dX7_odds_69 : decode cX7_odds 69 = .ok (.lconst 0, 1) := by decide +kernel
theorem dX7_odds_70 : decode cX7_odds 70 = .ok (.lstore 5, 2) := by decide +kernel
theorem dX7_odds_72 : decode cX7_odds 72 = .ok (.iconst 0, 1) := by decide +kernel
theorem dX7_odds_73 : decode cX7_odds 73 = .ok (.istore 7, 2) := by decide +kernel
theorem dX7_odds_75 : decode cX7_odds 75 = .ok (.iload 7, 2) := by decide +kernel
theorem dX7_odds_77 : decode cX7_odds 77 = .ok (.iconst 1, 1) := by decide +kernel
theorem dX7_odds_78 : decode cX7_odds 78 = .ok (.iload_n 2, 1) := by decide +kernel
theorem dX7_odds_79 : decode cX7_odds 79 = .ok (.ishl, 1) := by decide +kernel
theorem dX7_odds_80 : decode cX7_odds 80 = .ok (.if_icmp .ge 35, 3) := by decide +kernel
theorem dX7_odds_83 : decode cX7_odds 83 = .ok (.aload_n 0, 1) := by decide +kernel
theorem dX7_odds_84 : decode cX7_odds 84 = .ok (.iload 7, 2) := by decide +kernel
theorem dX7_odds_86 : decode cX7_odds 86 = .ok (.iload_n 2, 1) := by decide +kernel
theorem dX7_odds_87 : decode cX7_odds 87 = .ok (.invokevirtual 222, 3) := by decide +kernel
theorem dX7_odds_90 : decode cX7_odds 90 = .ok (.lload 5, 2) := by decide +kernel
theorem dX7_odds_92 : decode cX7_odds 92 = .ok (.aload_n 0, 1) := by decide +kernel
theorem dX7_odds_93 : decode cX7_odds 93 = .ok (.iload_n 1, 1) := by decide +kernel
theorem dX7_odds_94 : decode cX7_odds 94 = .ok (.iload_n 2, 1) := by decide +kernel
theorem dX7_odds_95 : decode cX7_odds 95 = .ok (.invokevirtual 205, 3) := by decide +kernel
theorem dX7_odds_98 : decode cX7_odds 98 = .ok (.ifCond .lt 7, 3) := by decide +kernel
theorem dX7_odds_101 : decode cX7_odds 101 = .ok (.lconst 1, 1) := by decide +kernel
theorem dX7_odds_102 : decode cX7_odds 102 = .ok (.goto 4, 3) := by decide +kernel
theorem dX7_odds_105 : decode cX7_odds 105 = .ok (.lconst 0, 1) := by decide +kernel
theorem dX7_odds_106 : decode cX7_odds 106 = .ok (.ladd, 1) := by decide +kernel
theorem dX7_odds_107 : decode cX7_odds 107 = .ok (.lstore 5, 2) := by decide +kernel
theorem dX7_odds_109 : decode cX7_odds 109 = .ok (.iinc 7 1, 3) := by decide +kernel
theorem dX7_odds_112 : decode cX7_odds 112 = .ok (.goto (-37), 3) := by decide +kernel
theorem dX7_odds_115 : decode cX7_odds 115 = .ok (.aload_n 0, 1) := by decide +kernel
theorem dX7_odds_116 : decode cX7_odds 116 = .ok (.iload 4, 2) := by decide +kernel
theorem dX7_odds_118 : decode cX7_odds 118 = .ok (.iload_n 2, 1) := by decide +kernel
theorem dX7_odds_119 : decode cX7_odds 119 = .ok (.invokevirtual 222, 3) := by decide +kernel
theorem dX7_odds_122 : decode cX7_odds 122 = .ok (.lload 5, 2) := by decide +kernel
theorem dX7_odds_124 : decode cX7_odds 124 = .ok (.lconst 1, 1) := by decide +kernel
theorem dX7_odds_125 : decode cX7_odds 125 = .ok (.iload_n 2, 1) := by decide +kernel
theorem dX7_odds_126 : decode cX7_odds 126 = .ok (.lshl, 1) := by decide +kernel
theorem dX7_odds_127 : decode cX7_odds 127 = .ok (.iload_n 3, 1) := by decide +kernel
theorem dX7_odds_128 : decode cX7_odds 128 = .ok (.invokestatic 225, 3) := by decide +kernel
theorem dX7_odds_131 : decode cX7_odds 131 = .ok (.lreturn, 1) := by decide +kernel
theorem dX7_noSheet_0 : decode cX7_noSheet 0 = .ok (.iload_n 0, 1) := by decide +kernel
theorem dX7_noSheet_1 : decode cX7_noSheet 1 = .ok (.i2l, 1) := by decide +kernel
theorem dX7_noSheet_2 : decode cX7_noSheet 2 = .ok (.lconst 0, 1) := by decide +kernel
theorem dX7_noSheet_3 : decode cX7_noSheet 3 = .ok (.ldc2_w 229, 3) := by decide +kernel
theorem dX7_noSheet_6 : decode cX7_noSheet 6 = .ok (.invokestatic 89, 3) := by decide +kernel
theorem dX7_noSheet_9 : decode cX7_noSheet 9 = .ok (.ifCond .ne 7, 3) := by decide +kernel
theorem dX7_noSheet_12 : decode cX7_noSheet 12 = .ok (.iconst 1, 1) := by decide +kernel
theorem dX7_noSheet_13 : decode cX7_noSheet 13 = .ok (.goto 4, 3) := by decide +kernel
theorem dX7_noSheet_16 : decode cX7_noSheet 16 = .ok (.iconst 0, 1) := by decide +kernel
theorem dX7_noSheet_17 : decode cX7_noSheet 17 = .ok (.ireturn, 1) := by decide +kernel
theorem dX7_sheet_0 : decode cX7_sheet 0 = .ok (.iload_n 1, 1) := by decide +kernel
theorem dX7_sheet_1 : decode cX7_sheet 1 = .ok (.invokestatic 137, 3) := by decide +kernel
theorem dX7_sheet_4 : decode cX7_sheet 4 = .ok (.ifCond .eq 9, 3) := by decide +kernel
theorem dX7_sheet_7 : decode cX7_sheet 7 = .ok (.aload_n 0, 1) := by decide +kernel
theorem dX7_sheet_8 : decode cX7_sheet 8 = .ok (.iconst (-1), 1) := by decide +kernel
theorem dX7_sheet_9 : decode cX7_sheet 9 = .ok (.invokevirtual 141, 3) := by decide +kernel
theorem dX7_sheet_12 : decode cX7_sheet 12 = .ok (.ireturn, 1) := by decide +kernel
theorem dX7_sheet_13 : decode cX7_sheet 13 = .ok (.iload_n 2, 1) := by decide +kernel
theorem dX7_sheet_14 : decode cX7_sheet 14 = .ok (.i2l, 1) := by decide +kernel
theorem dX7_sheet_15 : decode cX7_sheet 15 = .ok (.lconst 0, 1) := by decide +kernel
theorem dX7_sheet_16 : decode cX7_sheet 16 = .ok (.ldc2_w 144, 3) := by decide +kernel
theorem dX7_sheet_19 : decode cX7_sheet 19 = .ok (.invokestatic 89, 3) := by decide +kernel
theorem dX7_sheet_22 : decode cX7_sheet 22 = .ok (.ifCond .eq 9, 3) := by decide +kernel
theorem dX7_sheet_25 : decode cX7_sheet 25 = .ok (.iload_n 3, 1) := by decide +kernel
theorem dX7_sheet_26 : decode cX7_sheet 26 = .ok (.bipush 60, 2) := by decide +kernel
theorem dX7_sheet_28 : decode cX7_sheet 28 = .ok (.if_icmp .le 10, 3) := by decide +kernel
theorem dX7_sheet_31 : decode cX7_sheet 31 = .ok (.aload_n 0, 1) := by decide +kernel
theorem dX7_sheet_32 : decode cX7_sheet 32 = .ok (.bipush (-2), 2) := by decide +kernel
theorem dX7_sheet_34 : decode cX7_sheet 34 = .ok (.invokevirtual 141, 3) := by decide +kernel
theorem dX7_sheet_37 : decode cX7_sheet 37 = .ok (.ireturn, 1) := by decide +kernel
theorem dX7_sheet_38 : decode cX7_sheet 38 = .ok (.iload_n 3, 1) := by decide +kernel
theorem dX7_sheet_39 : decode cX7_sheet 39 = .ok (.ifCond .ge 9, 3) := by decide +kernel
theorem dX7_sheet_42 : decode cX7_sheet 42 = .ok (.aload_n 0, 1) := by decide +kernel
theorem dX7_sheet_43 : decode cX7_sheet 43 = .ok (.iconst 4, 1) := by decide +kernel
theorem dX7_sheet_44 : decode cX7_sheet 44 = .ok (.invokevirtual 129, 3) := by decide +kernel
theorem dX7_sheet_47 : decode cX7_sheet 47 = .ok (.ireturn, 1) := by decide +kernel
theorem dX7_sheet_48 : decode cX7_sheet 48 = .ok (.aload_n 0, 1) := by decide +kernel
theorem dX7_sheet_49 : decode cX7_sheet 49 = .ok (.getfield 61, 3) := by decide +kernel
theorem dX7_sheet_52 : decode cX7_sheet 52 = .ok (.iload_n 1, 1) := by decide +kernel
theorem dX7_sheet_53 : decode cX7_sheet 53 = .ok (.iload_n 3, 1) := by decide +kernel
theorem dX7_sheet_54 : decode cX7_sheet 54 = .ok (.iastore, 1) := by decide +kernel
theorem dX7_sheet_55 : decode cX7_sheet 55 = .ok (.aload_n 0, 1) := by decide +kernel
theorem dX7_sheet_56 : decode cX7_sheet 56 = .ok (.getfield 64, 3) := by decide +kernel
theorem dX7_sheet_59 : decode cX7_sheet 59 = .ok (.iload_n 1, 1) := by decide +kernel
theorem dX7_sheet_60 : decode cX7_sheet 60 = .ok (.iload_n 2, 1) := by decide +kernel
theorem dX7_sheet_61 : decode cX7_sheet 61 = .ok (.iastore, 1) := by decide +kernel
theorem dX7_sheet_62 : decode cX7_sheet 62 = .ok (.iconst 0, 1) := by decide +kernel
theorem dX7_sheet_63 : decode cX7_sheet 63 = .ok (.istore 4, 2) := by decide +kernel
theorem dX7_sheet_65 : decode cX7_sheet 65 = .ok (.iload 4, 2) := by decide +kernel
theorem dX7_sheet_67 : decode cX7_sheet 67 = .ok (.iload_n 3, 1) := by decide +kernel
theorem dX7_sheet_68 : decode cX7_sheet 68 = .ok (.if_icmp .ge 22, 3) := by decide +kernel
theorem dX7_sheet_71 : decode cX7_sheet 71 = .ok (.aload_n 0, 1) := by decide +kernel
theorem dX7_sheet_72 : decode cX7_sheet 72 = .ok (.getfield 67, 3) := by decide +kernel
theorem dX7_sheet_75 : decode cX7_sheet 75 = .ok (.bipush 60, 2) := by decide +kernel
theorem dX7_sheet_77 : decode cX7_sheet 77 = .ok (.iload_n 1, 1) := by decide +kernel
theorem dX7_sheet_78 : decode cX7_sheet 78 = .ok (.imul, 1) := by decide +kernel
theorem dX7_sheet_79 : decode cX7_sheet 79 = .ok (.iload 4, 2) := by decide +kernel
theorem dX7_sheet_81 : decode cX7_sheet 81 = .ok (.iadd, 1) := by decide +kernel
theorem dX7_sheet_82 : decode cX7_sheet 82 = .ok (.iconst 0, 1) := by decide +kernel
theorem dX7_sheet_83 : decode cX7_sheet 83 = .ok (.iastore, 1) := by decide +kernel
theorem dX7_sheet_84 : decode cX7_sheet 84 = .ok (.iinc 4 1, 3) := by decide +kernel
theorem dX7_sheet_87 : decode cX7_sheet 87 = .ok (.goto (-22), 3) := by decide +kernel
theorem dX7_sheet_90 : decode cX7_sheet 90 = .ok (.aload_n 0, 1) := by decide +kernel
theorem dX7_sheet_91 : decode cX7_sheet 91 = .ok (.iconst 1, 1) := by decide +kernel
theorem dX7_sheet_92 : decode cX7_sheet 92 = .ok (.invokevirtual 141, 3) := by decide +kernel
theorem dX7_sheet_95 : decode cX7_sheet 95 = .ok (.ireturn, 1) := by decide +kernel
theorem dX7_lose_0 : decode cX7_lose 0 = .ok (.iload_n 1, 1) := by decide +kernel
theorem dX7_lose_1 : decode cX7_lose 1 = .ok (.invokestatic 137, 3) := by decide +kernel
theorem dX7_lose_4 : decode cX7_lose 4 = .ok (.ifCond .eq 5, 3) := by decide +kernel
theorem dX7_lose_7 : decode cX7_lose 7 = .ok (.iconst (-1), 1) := by decide +kernel
theorem dX7_lose_8 : decode cX7_lose 8 = .ok (.ireturn, 1) := by decide +kernel
theorem dX7_lose_9 : decode cX7_lose 9 = .ok (.aload_n 0, 1) := by decide +kernel
theorem dX7_lose_10 : decode cX7_lose 10 = .ok (.getfield 61, 3) := by decide +kernel
theorem dX7_lose_13 : decode cX7_lose 13 = .ok (.iload_n 1, 1) := by decide +kernel
theorem dX7_lose_14 : decode cX7_lose 14 = .ok (.iaload, 1) := by decide +kernel
theorem dX7_lose_15 : decode cX7_lose 15 = .ok (.ifCond .ge 7, 3) := by decide +kernel
theorem dX7_lose_18 : decode cX7_lose 18 = .ok (.iconst 0, 1) := by decide +kernel
theorem dX7_lose_19 : decode cX7_lose 19 = .ok (.goto 4, 3) := by decide +kernel
theorem dX7_lose_22 : decode cX7_lose 22 = .ok (.iconst 1, 1) := by decide +kernel
theorem dX7_lose_23 : decode cX7_lose 23 = .ok (.istore_n 2, 1) := by decide +kernel
theorem dX7_lose_24 : decode cX7_lose 24 = .ok (.aload_n 0, 1) := by decide +kernel
theorem dX7_lose_25 : decode cX7_lose 25 = .ok (.getfield 61, 3) := by decide +kernel
theorem dX7_lose_28 : decode cX7_lose 28 = .ok (.iload_n 1, 1) := by decide +kernel
theorem dX7_lose_29 : decode cX7_lose 29 = .ok (.iconst (-1), 1) := by decide +kernel
theorem dX7_lose_30 : decode cX7_lose 30 = .ok (.iastore, 1) := by decide +kernel
theorem dX7_lose_31 : decode cX7_lose 31 = .ok (.iload_n 2, 1) := by decide +kernel
theorem dX7_lose_32 : decode cX7_lose 32 = .ok (.ireturn, 1) := by decide +kernel
theorem dX7_noCell_0 : decode cX7_noCell 0 = .ok (.aload_n 0, 1) := by decide +kernel
theorem dX7_noCell_1 : decode cX7_noCell 1 = .ok (.getfield 61, 3) := by decide +kernel
theorem dX7_noCell_4 : decode cX7_noCell 4 = .ok (.iload_n 1, 1) := by decide +kernel
theorem dX7_noCell_5 : decode cX7_noCell 5 = .ok (.iaload, 1) := by decide +kernel
theorem dX7_noCell_6 : decode cX7_noCell 6 = .ok (.ifCond .ge 7, 3) := by decide +kernel
theorem dX7_noCell_9 : decode cX7_noCell 9 = .ok (.iconst 1, 1) := by decide +kernel
theorem dX7_noCell_10 : decode cX7_noCell 10 = .ok (.goto 26, 3) := by decide +kernel
theorem dX7_noCell_13 : decode cX7_noCell 13 = .ok (.iload_n 2, 1) := by decide +kernel
theorem dX7_noCell_14 : decode cX7_noCell 14 = .ok (.i2l, 1) := by decide +kernel
theorem dX7_noCell_15 : decode cX7_noCell 15 = .ok (.lconst 0, 1) := by decide +kernel
theorem dX7_noCell_16 : decode cX7_noCell 16 = .ok (.aload_n 0, 1) := by decide +kernel
theorem dX7_noCell_17 : decode cX7_noCell 17 = .ok (.getfield 61, 3) := by decide +kernel
theorem dX7_noCell_20 : decode cX7_noCell 20 = .ok (.iload_n 1, 1) := by decide +kernel
theorem dX7_noCell_21 : decode cX7_noCell 21 = .ok (.iaload, 1) := by decide +kernel
theorem dX7_noCell_22 : decode cX7_noCell 22 = .ok (.i2l, 1) := by decide +kernel
theorem dX7_noCell_23 : decode cX7_noCell 23 = .ok (.lconst 1, 1) := by decide +kernel
theorem dX7_noCell_24 : decode cX7_noCell 24 = .ok (.lsub, 1) := by decide +kernel
theorem dX7_noCell_25 : decode cX7_noCell 25 = .ok (.invokestatic 89, 3) := by decide +kernel
theorem dX7_noCell_28 : decode cX7_noCell 28 = .ok (.ifCond .eq 7, 3) := by decide +kernel
theorem dX7_noCell_31 : decode cX7_noCell 31 = .ok (.iconst 0, 1) := by decide +kernel
theorem dX7_noCell_32 : decode cX7_noCell 32 = .ok (.goto 4, 3) := by decide +kernel
theorem dX7_noCell_35 : decode cX7_noCell 35 = .ok (.iconst 3, 1) := by decide +kernel
theorem dX7_noCell_36 : decode cX7_noCell 36 = .ok (.ireturn, 1) := by decide +kernel
theorem dX7_put_0 : decode cX7_put 0 = .ok (.iload_n 1, 1) := by decide +kernel
theorem dX7_put_1 : decode cX7_put 1 = .ok (.invokestatic 137, 3) := by decide +kernel
theorem dX7_put_4 : decode cX7_put 4 = .ok (.ifCond .eq 9, 3) := by decide +kernel
theorem dX7_put_7 : decode cX7_put 7 = .ok (.aload_n 0, 1) := by decide +kernel
theorem dX7_put_8 : decode cX7_put 8 = .ok (.iconst (-1), 1) := by decide +kernel
theorem dX7_put_9 : decode cX7_put 9 = .ok (.invokevirtual 141, 3) := by decide +kernel
theorem dX7_put_12 : decode cX7_put 12 = .ok (.ireturn, 1) := by decide +kernel
theorem dX7_put_13 : decode cX7_put 13 = .ok (.aload_n 0, 1) := by decide +kernel
theorem dX7_put_14 : decode cX7_put 14 = .ok (.iload_n 1, 1) := by decide +kernel
theorem dX7_put_15 : decode cX7_put 15 = .ok (.iload_n 2, 1) := by decide +kernel
theorem dX7_put_16 : decode cX7_put 16 = .ok (.invokevirtual 231, 3) := by decide +kernel
theorem dX7_put_19 : decode cX7_put 19 = .ok (.ifCond .le 14, 3) := by decide +kernel
theorem dX7_put_22 : decode cX7_put 22 = .ok (.aload_n 0, 1) := by decide +kernel
theorem dX7_put_23 : decode cX7_put 23 = .ok (.aload_n 0, 1) := by decide +kernel
theorem dX7_put_24 : decode cX7_put 24 = .ok (.iload_n 1, 1) := by decide +kernel
theorem dX7_put_25 : decode cX7_put 25 = .ok (.iload_n 2, 1) := by decide +kernel
theorem dX7_put_26 : decode cX7_put 26 = .ok (.invokevirtual 231, 3) := by decide +kernel
theorem dX7_put_29 : decode cX7_put 29 = .ok (.invokevirtual 129, 3) := by decide +kernel
theorem dX7_put_32 : decode cX7_put 32 = .ok (.ireturn, 1) := by decide +kernel
theorem dX7_put_33 : decode cX7_put 33 = .ok (.aload_n 0, 1) := by decide +kernel
theorem dX7_put_34 : decode cX7_put 34 = .ok (.getfield 67, 3) := by decide +kernel
theorem dX7_put_37 : decode cX7_put 37 = .ok (.bipush 60, 2) := by decide +kernel
theorem dX7_put_39 : decode cX7_put 39 = .ok (.iload_n 1, 1) := by decide +kernel
theorem dX7_put_40 : decode cX7_put 40 = .ok (.imul, 1) := by decide +kernel
theorem dX7_put_41 : decode cX7_put 41 = .ok (.iload_n 2, 1) := by decide +kernel
theorem dX7_put_42 : decode cX7_put 42 = .ok (.iadd, 1) := by decide +kernel
theorem dX7_put_43 : decode cX7_put 43 = .ok (.aload_n 0, 1) := by decide +kernel
theorem dX7_put_44 : decode cX7_put 44 = .ok (.getfield 64, 3) := by decide +kernel
theorem dX7_put_47 : decode cX7_put 47 = .ok (.iload_n 1, 1) := by decide +kernel
theorem dX7_put_48 : decode cX7_put 48 = .ok (.iaload, 1) := by decide +kernel
theorem dX7_put_49 : decode cX7_put 49 = .ok (.ifCond .ne 8, 3) := by decide +kernel
theorem dX7_put_52 : decode cX7_put 52 = .ok (.iload_n 3, 1) := by decide +kernel
theorem dX7_put_53 : decode cX7_put 53 = .ok (.i2b, 1) := by decide +kernel
theorem dX7_put_54 : decode cX7_put 54 = .ok (.goto 19, 3) := by decide +kernel
theorem dX7_put_57 : decode cX7_put 57 = .ok (.aload_n 0, 1) := by decide +kernel
theorem dX7_put_58 : decode cX7_put 58 = .ok (.getfield 64, 3) := by decide +kernel
theorem dX7_put_61 : decode cX7_put 61 = .ok (.iload_n 1, 1) := by decide +kernel
theorem dX7_put_62 : decode cX7_put 62 = .ok (.iaload, 1) := by decide +kernel
theorem dX7_put_63 : decode cX7_put 63 = .ok (.iconst 1, 1) := by decide +kernel
theorem dX7_put_64 : decode cX7_put 64 = .ok (.if_icmp .ne 8, 3) := by decide +kernel
theorem dX7_put_67 : decode cX7_put 67 = .ok (.iload_n 3, 1) := by decide +kernel
theorem dX7_put_68 : decode cX7_put 68 = .ok (.i2s, 1) := by decide +kernel
theorem dX7_put_69 : decode cX7_put 69 = .ok (.goto 4, 3) := by decide +kernel
theorem dX7_put_72 : decode cX7_put 72 = .ok (.iload_n 3, 1) := by decide +kernel
theorem dX7_put_73 : decode cX7_put 73 = .ok (.iastore, 1) := by decide +kernel
theorem dX7_put_74 : decode cX7_put 74 = .ok (.aload_n 0, 1) := by decide +kernel
theorem dX7_put_75 : decode cX7_put 75 = .ok (.iconst 1, 1) := by decide +kernel
theorem dX7_put_76 : decode cX7_put 76 = .ok (.invokevirtual 141, 3) := by decide +kernel
theorem dX7_put_79 : decode cX7_put 79 = .ok (.ireturn, 1) := by decide +kernel
theorem dX7_cell_0 : decode cX7_cell 0 = .ok (.aload_n 0, 1) := by decide +kernel
theorem dX7_cell_1 : decode cX7_cell 1 = .ok (.iconst 0, 1) := by decide +kernel
theorem dX7_cell_2 : decode cX7_cell 2 = .ok (.putfield 79, 3) := by decide +kernel
theorem dX7_cell_5 : decode cX7_cell 5 = .ok (.iload_n 1, 1) := by decide +kernel
theorem dX7_cell_6 : decode cX7_cell 6 = .ok (.invokestatic 137, 3) := by decide +kernel
theorem dX7_cell_9 : decode cX7_cell 9 = .ok (.ifCond .ne 15, 3) := by decide +kernel
theorem dX7_cell_12 : decode cX7_cell 12 = .ok (.iload_n 3, 1) := by decide +kernel
theorem dX7_cell_13 : decode cX7_cell 13 = .ok (.i2l, 1) := by decide +kernel
theorem dX7_cell_14 : decode cX7_cell 14 = .ok (.lconst 0, 1) := by decide +kernel
theorem dX7_cell_15 : decode cX7_cell 15 = .ok (.ldc2_w 144, 3) := by decide +kernel
theorem dX7_cell_18 : decode cX7_cell 18 = .ok (.invokestatic 89, 3) := by decide +kernel
theorem dX7_cell_21 : decode cX7_cell 21 = .ok (.ifCond .ne 7, 3) := by decide +kernel
theorem dX7_cell_24 : decode cX7_cell 24 = .ok (.invokestatic 82, 3) := by decide +kernel
theorem dX7_cell_27 : decode cX7_cell 27 = .ok (.lreturn, 1) := by decide +kernel
theorem dX7_cell_28 : decode cX7_cell 28 = .ok (.aload_n 0, 1) := by decide +kernel
theorem dX7_cell_29 : decode cX7_cell 29 = .ok (.getfield 61, 3) := by decide +kernel
theorem dX7_cell_32 : decode cX7_cell 32 = .ok (.iload_n 1, 1) := by decide +kernel
theorem dX7_cell_33 : decode cX7_cell 33 = .ok (.iaload, 1) := by decide +kernel
theorem dX7_cell_34 : decode cX7_cell 34 = .ok (.ifCond .lt 19, 3) := by decide +kernel
theorem dX7_cell_37 : decode cX7_cell 37 = .ok (.aload_n 0, 1) := by decide +kernel
theorem dX7_cell_38 : decode cX7_cell 38 = .ok (.getfield 64, 3) := by decide +kernel
theorem dX7_cell_41 : decode cX7_cell 41 = .ok (.iload_n 1, 1) := by decide +kernel
theorem dX7_cell_42 : decode cX7_cell 42 = .ok (.iaload, 1) := by decide +kernel
theorem dX7_cell_43 : decode cX7_cell 43 = .ok (.iload_n 3, 1) := by decide +kernel
theorem dX7_cell_44 : decode cX7_cell 44 = .ok (.if_icmp .eq 9, 3) := by decide +kernel
theorem dX7_cell_47 : decode cX7_cell 47 = .ok (.aload_n 0, 1) := by decide +kernel
theorem dX7_cell_48 : decode cX7_cell 48 = .ok (.iconst 2, 1) := by decide +kernel
theorem dX7_cell_49 : decode cX7_cell 49 = .ok (.invokevirtual 234, 3) := by decide +kernel
theorem dX7_cell_52 : decode cX7_cell 52 = .ok (.lreturn, 1) := by decide +kernel
theorem dX7_cell_53 : decode cX7_cell 53 = .ok (.aload_n 0, 1) := by decide +kernel
theorem dX7_cell_54 : decode cX7_cell 54 = .ok (.iload_n 1, 1) := by decide +kernel
theorem dX7_cell_55 : decode cX7_cell 55 = .ok (.iload_n 2, 1) := by decide +kernel
theorem dX7_cell_56 : decode cX7_cell 56 = .ok (.invokevirtual 231, 3) := by decide +kernel
theorem dX7_cell_59 : decode cX7_cell 59 = .ok (.ifCond .le 16, 3) := by decide +kernel
theorem dX7_cell_62 : decode cX7_cell 62 = .ok (.aload_n 0, 1) := by decide +kernel
theorem dX7_cell_63 : decode cX7_cell 63 = .ok (.aload_n 0, 1) := by decide +kernel
theorem dX7_cell_64 : decode cX7_cell 64 = .ok (.iload_n 1, 1) := by decide +kernel
theorem dX7_cell_65 : decode cX7_cell 65 = .ok (.iload_n 2, 1) := by decide +kernel
theorem dX7_cell_66 : decode cX7_cell 66 = .ok (.invokevirtual 231, 3) := by decide +kernel
theorem dX7_cell_69 : decode cX7_cell 69 = .ok (.invokevirtual 234, 3) := by decide +kernel
theorem dX7_cell_72 : decode cX7_cell 72 = .ok (.goto 15, 3) := by decide +kernel
theorem dX7_cell_75 : decode cX7_cell 75 = .ok (.aload_n 0, 1) := by decide +kernel
theorem dX7_cell_76 : decode cX7_cell 76 = .ok (.getfield 67, 3) := by decide +kernel
theorem dX7_cell_79 : decode cX7_cell 79 = .ok (.bipush 60, 2) := by decide +kernel
theorem dX7_cell_81 : decode cX7_cell 81 = .ok (.iload_n 1, 1) := by decide +kernel
theorem dX7_cell_82 : decode cX7_cell 82 = .ok (.imul, 1) := by decide +kernel
theorem dX7_cell_83 : decode cX7_cell 83 = .ok (.iload_n 2, 1) := by decide +kernel
theorem dX7_cell_84 : decode cX7_cell 84 = .ok (.iadd, 1) := by decide +kernel
theorem dX7_cell_85 : decode cX7_cell 85 = .ok (.iaload, 1) := by decide +kernel
theorem dX7_cell_86 : decode cX7_cell 86 = .ok (.i2l, 1) := by decide +kernel
theorem dX7_cell_87 : decode cX7_cell 87 = .ok (.lreturn, 1) := by decide +kernel
theorem dX7_isBeyond_0 : decode cX7_isBeyond 0 = .ok (.iload_n 0, 1) := by decide +kernel
theorem dX7_isBeyond_1 : decode cX7_isBeyond 1 = .ok (.ifCond .lt 19, 3) := by decide +kernel
theorem dX7_isBeyond_4 : decode cX7_isBeyond 4 = .ok (.lload_n 1, 1) := by decide +kernel
theorem dX7_isBeyond_5 : decode cX7_isBeyond 5 = .ok (.lconst 0, 1) := by decide +kernel
theorem dX7_isBeyond_6 : decode cX7_isBeyond 6 = .ok (.lcmp, 1) := by decide +kernel
theorem dX7_isBeyond_7 : decode cX7_isBeyond 7 = .ok (.ifCond .lt 13, 3) := by decide +kernel
theorem dX7_isBeyond_10 : decode cX7_isBeyond 10 = .ok (.iload_n 0, 1) := by decide +kernel
theorem dX7_isBeyond_11 : decode cX7_isBeyond 11 = .ok (.i2l, 1) := by decide +kernel
theorem dX7_isBeyond_12 : decode cX7_isBeyond 12 = .ok (.lload_n 1, 1) := by decide +kernel
theorem dX7_isBeyond_13 : decode cX7_isBeyond 13 = .ok (.ladd, 1) := by decide +kernel
theorem dX7_isBeyond_14 : decode cX7_isBeyond 14 = .ok (.iload_n 3, 1) := by decide +kernel
theorem dX7_isBeyond_15 : decode cX7_isBeyond 15 = .ok (.i2l, 1) := by decide +kernel
theorem dX7_isBeyond_16 : decode cX7_isBeyond 16 = .ok (.lcmp, 1) := by decide +kernel
theorem dX7_isBeyond_17 : decode cX7_isBeyond 17 = .ok (.ifCond .le 7, 3) := by decide +kernel
theorem dX7_isBeyond_20 : decode cX7_isBeyond 20 = .ok (.iconst 1, 1) := by decide +kernel
theorem dX7_isBeyond_21 : decode cX7_isBeyond 21 = .ok (.goto 4, 3) := by decide +kernel
theorem dX7_isBeyond_24 : decode cX7_isBeyond 24 = .ok (.iconst 0, 1) := by decide +kernel
theorem dX7_isBeyond_25 : decode cX7_isBeyond 25 = .ok (.ireturn, 1) := by decide +kernel
theorem dX7_copy_0 : decode cX7_copy 0 = .ok (.iload_n 1, 1) := by decide +kernel
theorem dX7_copy_1 : decode cX7_copy 1 = .ok (.invokestatic 137, 3) := by decide +kernel
theorem dX7_copy_4 : decode cX7_copy 4 = .ok (.ifCond .ne 10, 3) := by decide +kernel
theorem dX7_copy_7 : decode cX7_copy 7 = .ok (.iload_n 3, 1) := by decide +kernel
theorem dX7_copy_8 : decode cX7_copy 8 = .ok (.invokestatic 137, 3) := by decide +kernel
theorem dX7_copy_11 : decode cX7_copy 11 = .ok (.ifCond .eq 9, 3) := by decide +kernel
theorem dX7_copy_14 : decode cX7_copy 14 = .ok (.aload_n 0, 1) := by decide +kernel
theorem dX7_copy_15 : decode cX7_copy 15 = .ok (.iconst (-1), 1) := by decide +kernel
theorem dX7_copy_16 : decode cX7_copy 16 = .ok (.invokevirtual 141, 3) := by decide +kernel
theorem dX7_copy_19 : decode cX7_copy 19 = .ok (.ireturn, 1) := by decide +kernel
theorem dX7_copy_20 : decode cX7_copy 20 = .ok (.aload_n 0, 1) := by decide +kernel
theorem dX7_copy_21 : decode cX7_copy 21 = .ok (.getfield 61, 3) := by decide +kernel
theorem dX7_copy_24 : decode cX7_copy 24 = .ok (.iload_n 1, 1) := by decide +kernel
theorem dX7_copy_25 : decode cX7_copy 25 = .ok (.iaload, 1) := by decide +kernel
theorem dX7_copy_26 : decode cX7_copy 26 = .ok (.ifCond .lt 12, 3) := by decide +kernel
theorem dX7_copy_29 : decode cX7_copy 29 = .ok (.aload_n 0, 1) := by decide +kernel
theorem dX7_copy_30 : decode cX7_copy 30 = .ok (.getfield 61, 3) := by decide +kernel
theorem dX7_copy_33 : decode cX7_copy 33 = .ok (.iload_n 3, 1) := by decide +kernel
theorem dX7_copy_34 : decode cX7_copy 34 = .ok (.iaload, 1) := by decide +kernel
theorem dX7_copy_35 : decode cX7_copy 35 = .ok (.ifCond .ge 9, 3) := by decide +kernel
theorem dX7_copy_38 : decode cX7_copy 38 = .ok (.aload_n 0, 1) := by decide +kernel
theorem dX7_copy_39 : decode cX7_copy 39 = .ok (.iconst 1, 1) := by decide +kernel
theorem dX7_copy_40 : decode cX7_copy 40 = .ok (.invokevirtual 129, 3) := by decide +kernel
theorem dX7_copy_43 : decode cX7_copy 43 = .ok (.ireturn, 1) := by decide +kernel
theorem dX7_copy_44 : decode cX7_copy 44 = .ok (.aload_n 0, 1) := by decide +kernel
theorem dX7_copy_45 : decode cX7_copy 45 = .ok (.getfield 64, 3) := by decide +kernel
theorem dX7_copy_48 : decode cX7_copy 48 = .ok (.iload_n 1, 1) := by decide +kernel
theorem dX7_copy_49 : decode cX7_copy 49 = .ok (.iaload, 1) := by decide +kernel
theorem dX7_copy_50 : decode cX7_copy 50 = .ok (.aload_n 0, 1) := by decide +kernel
theorem dX7_copy_51 : decode cX7_copy 51 = .ok (.getfield 64, 3) := by decide +kernel
theorem dX7_copy_54 : decode cX7_copy 54 = .ok (.iload_n 3, 1) := by decide +kernel
theorem dX7_copy_55 : decode cX7_copy 55 = .ok (.iaload, 1) := by decide +kernel
theorem dX7_copy_56 : decode cX7_copy 56 = .ok (.if_icmp .eq 9, 3) := by decide +kernel
theorem dX7_copy_59 : decode cX7_copy 59 = .ok (.aload_n 0, 1) := by decide +kernel
theorem dX7_copy_60 : decode cX7_copy 60 = .ok (.iconst 2, 1) := by decide +kernel
theorem dX7_copy_61 : decode cX7_copy 61 = .ok (.invokevirtual 129, 3) := by decide +kernel
theorem dX7_copy_64 : decode cX7_copy 64 = .ok (.ireturn, 1) := by decide +kernel
theorem dX7_copy_65 : decode cX7_copy 65 = .ok (.iload_n 2, 1) := by decide +kernel
theorem dX7_copy_66 : decode cX7_copy 66 = .ok (.iload 5, 2) := by decide +kernel
theorem dX7_copy_68 : decode cX7_copy 68 = .ok (.i2l, 1) := by decide +kernel
theorem dX7_copy_69 : decode cX7_copy 69 = .ok (.aload_n 0, 1) := by decide +kernel
theorem dX7_copy_70 : decode cX7_copy 70 = .ok (.getfield 61, 3) := by decide +kernel
theorem dX7_copy_73 : decode cX7_copy 73 = .ok (.iload_n 1, 1) := by decide +kernel
theorem dX7_copy_74 : decode cX7_copy 74 = .ok (.iaload, 1) := by decide +kernel
theorem dX7_copy_75 : decode cX7_copy 75 = .ok (.invokestatic 133, 3) := by decide +kernel
theorem dX7_copy_78 : decode cX7_copy 78 = .ok (.ifCond .ne 20, 3) := by decide +kernel
theorem dX7_copy_81 : decode cX7_copy 81 = .ok (.iload 4, 2) := by decide +kernel
theorem dX7_copy_83 : decode cX7_copy 83 = .ok (.iload 5, 2) := by decide +kernel
theorem dX7_copy_85 : decode cX7_copy 85 = .ok (.i2l, 1) := by decide +kernel
theorem dX7_copy_86 : decode cX7_copy 86 = .ok (.aload_n 0, 1) := by decide +kernel
theorem dX7_copy_87 : decode cX7_copy 87 = .ok (.getfield 61, 3) := by decide +kernel
theorem dX7_copy_90 : decode cX7_copy 90 = .ok (.iload_n 3, 1) := by decide +kernel
theorem dX7_copy_91 : decode cX7_copy 91 = .ok (.iaload, 1) := by decide +kernel
theorem dX7_copy_92 : decode cX7_copy 92 = .ok (.invokestatic 133, 3) := by decide +kernel
theorem dX7_copy_95 : decode cX7_copy 95 = .ok (.ifCond .eq 9, 3) := by decide +kernel
theorem dX7_copy_98 : decode cX7_copy 98 = .ok (.aload_n 0, 1) := by decide +kernel
theorem dX7_copy_99 : decode cX7_copy 99 = .ok (.iconst 3, 1) := by decide +kernel
theorem dX7_copy_100 : decode cX7_copy 100 = .ok (.invokevirtual 129, 3) := by decide +kernel
theorem dX7_copy_103 : decode cX7_copy 103 = .ok (.ireturn, 1) := by decide +kernel
theorem dX7_copy_104 : decode cX7_copy 104 = .ok (.iconst 0, 1) := by decide +kernel
theorem dX7_copy_105 : decode cX7_copy 105 = .ok (.istore 6, 2) := by decide +kernel
theorem dX7_copy_107 : decode cX7_copy 107 = .ok (.iload 6, 2) := by decide +kernel
theorem dX7_copy_109 : decode cX7_copy 109 = .ok (.iload 5, 2) := by decide +kernel
theorem dX7_copy_111 : decode cX7_copy 111 = .ok (.if_icmp .ge 30, 3) := by decide +kernel
theorem dX7_copy_114 : decode cX7_copy 114 = .ok (.aload_n 0, 1) := by decide +kernel
theorem dX7_copy_115 : decode cX7_copy 115 = .ok (.getfield 70, 3) := by decide +kernel
theorem dX7_copy_118 : decode cX7_copy 118 = .ok (.iload 6, 2) := by decide +kernel
theorem dX7_copy_120 : decode cX7_copy 120 = .ok (.aload_n 0, 1) := by decide +kernel
theorem dX7_copy_121 : decode cX7_copy 121 = .ok (.getfield 67, 3) := by decide +kernel
theorem dX7_copy_124 : decode cX7_copy 124 = .ok (.bipush 60, 2) := by decide +kernel
theorem dX7_copy_126 : decode cX7_copy 126 = .ok (.iload_n 1, 1) := by decide +kernel
theorem dX7_copy_127 : decode cX7_copy 127 = .ok (.imul, 1) := by decide +kernel
theorem dX7_copy_128 : decode cX7_copy 128 = .ok (.iload_n 2, 1) := by decide +kernel
theorem dX7_copy_129 : decode cX7_copy 129 = .ok (.iadd, 1) := by decide +kernel
theorem dX7_copy_130 : decode cX7_copy 130 = .ok (.iload 6, 2) := by decide +kernel
theorem dX7_copy_132 : decode cX7_copy 132 = .ok (.iadd, 1) := by decide +kernel
theorem dX7_copy_133 : decode cX7_copy 133 = .ok (.iaload, 1) := by decide +kernel
theorem dX7_copy_134 : decode cX7_copy 134 = .ok (.iastore, 1) := by decide +kernel
theorem dX7_copy_135 : decode cX7_copy 135 = .ok (.iinc 6 1, 3) := by decide +kernel
theorem dX7_copy_138 : decode cX7_copy 138 = .ok (.goto (-31), 3) := by decide +kernel
theorem dX7_copy_141 : decode cX7_copy 141 = .ok (.iconst 0, 1) := by decide +kernel
theorem dX7_copy_142 : decode cX7_copy 142 = .ok (.istore 6, 2) := by decide +kernel
theorem dX7_copy_144 : decode cX7_copy 144 = .ok (.iload 6, 2) := by decide +kernel
theorem dX7_copy_146 : decode cX7_copy 146 = .ok (.iload 5, 2) := by decide +kernel
theorem dX7_copy_148 : decode cX7_copy 148 = .ok (.if_icmp .ge 31, 3) := by decide +kernel
theorem dX7_copy_151 : decode cX7_copy 151 = .ok (.aload_n 0, 1) := by decide +kernel
theorem dX7_copy_152 : decode cX7_copy 152 = .ok (.getfield 67, 3) := by decide +kernel
theorem dX7_copy_155 : decode cX7_copy 155 = .ok (.bipush 60, 2) := by decide +kernel
theorem dX7_copy_157 : decode cX7_copy 157 = .ok (.iload_n 3, 1) := by decide +kernel
theorem dX7_copy_158 : decode cX7_copy 158 = .ok (.imul, 1) := by decide +kernel
theorem dX7_copy_159 : decode cX7_copy 159 = .ok (.iload 4, 2) := by decide +kernel
theorem dX7_copy_161 : decode cX7_copy 161 = .ok (.iadd, 1) := by decide +kernel
theorem dX7_copy_162 : decode cX7_copy 162 = .ok (.iload 6, 2) := by decide +kernel
theorem dX7_copy_164 : decode cX7_copy 164 = .ok (.iadd, 1) := by decide +kernel
theorem dX7_copy_165 : decode cX7_copy 165 = .ok (.aload_n 0, 1) := by decide +kernel
theorem dX7_copy_166 : decode cX7_copy 166 = .ok (.getfield 70, 3) := by decide +kernel
theorem dX7_copy_169 : decode cX7_copy 169 = .ok (.iload 6, 2) := by decide +kernel
theorem dX7_copy_171 : decode cX7_copy 171 = .ok (.iaload, 1) := by decide +kernel
theorem dX7_copy_172 : decode cX7_copy 172 = .ok (.iastore, 1) := by decide +kernel
theorem dX7_copy_173 : decode cX7_copy 173 = .ok (.iinc 6 1, 3) := by decide +kernel
theorem dX7_copy_176 : decode cX7_copy 176 = .ok (.goto (-32), 3) := by decide +kernel
theorem dX7_copy_179 : decode cX7_copy 179 = .ok (.aload_n 0, 1) := by decide +kernel
theorem dX7_copy_180 : decode cX7_copy 180 = .ok (.iload 5, 2) := by decide +kernel
theorem dX7_copy_182 : decode cX7_copy 182 = .ok (.invokevirtual 141, 3) := by decide +kernel
theorem dX7_copy_185 : decode cX7_copy 185 = .ok (.ireturn, 1) := by decide +kernel
theorem dX7_traced_0 : decode cX7_traced 0 = .ok (.aload_n 0, 1) := by decide +kernel
theorem dX7_traced_1 : decode cX7_traced 1 = .ok (.bipush 31, 2) := by decide +kernel
theorem dX7_traced_3 : decode cX7_traced 3 = .ok (.aload_n 0, 1) := by decide +kernel
theorem dX7_traced_4 : decode cX7_traced 4 = .ok (.getfield 238, 3) := by decide +kernel
theorem dX7_traced_7 : decode cX7_traced 7 = .ok (.imul, 1) := by decide +kernel
theorem dX7_traced_8 : decode cX7_traced 8 = .ok (.iload_n 1, 1) := by decide +kernel
theorem dX7_traced_9 : decode cX7_traced 9 = .ok (.iadd, 1) := by decide +kernel
theorem dX7_traced_10 : decode cX7_traced 10 = .ok (.putfield 238, 3) := by decide +kernel
theorem dX7_traced_13 : decode cX7_traced 13 = .ok (.return_, 1) := by decide +kernel
theorem dX7_tell_0 : decode cX7_tell 0 = .ok (.aload_n 0, 1) := by decide +kernel
theorem dX7_tell_1 : decode cX7_tell 1 = .ok (.iload_n 1, 1) := by decide +kernel
theorem dX7_tell_2 : decode cX7_tell 2 = .ok (.invokevirtual 159, 3) := by decide +kernel
theorem dX7_tell_5 : decode cX7_tell 5 = .ok (.ifCond .eq 5, 3) := by decide +kernel
theorem dX7_tell_8 : decode cX7_tell 8 = .ok (.iconst (-1), 1) := by decide +kernel
theorem dX7_tell_9 : decode cX7_tell 9 = .ok (.ireturn, 1) := by decide +kernel
theorem dX7_tell_10 : decode cX7_tell 10 = .ok (.aload_n 0, 1) := by decide +kernel
theorem dX7_tell_11 : decode cX7_tell 11 = .ok (.getfield 7, 3) := by decide +kernel
theorem dX7_tell_14 : decode cX7_tell 14 = .ok (.iload_n 1, 1) := by decide +kernel
theorem dX7_tell_15 : decode cX7_tell 15 = .ok (.iaload, 1) := by decide +kernel
theorem dX7_tell_16 : decode cX7_tell 16 = .ok (.istore_n 2, 1) := by decide +kernel
theorem dX7_tell_17 : decode cX7_tell 17 = .ok (.iload_n 2, 1) := by decide +kernel
theorem dX7_tell_18 : decode cX7_tell 18 = .ok (.iconst 2, 1) := by decide +kernel
theorem dX7_tell_19 : decode cX7_tell 19 = .ok (.if_icmp .ne 8, 3) := by decide +kernel
theorem dX7_tell_22 : decode cX7_tell 22 = .ok (.aload_n 0, 1) := by decide +kernel
theorem dX7_tell_23 : decode cX7_tell 23 = .ok (.iconst 3, 1) := by decide +kernel
theorem dX7_tell_24 : decode cX7_tell 24 = .ok (.invokevirtual 241, 3) := by decide +kernel
theorem dX7_tell_27 : decode cX7_tell 27 = .ok (.iload_n 2, 1) := by decide +kernel
theorem dX7_tell_28 : decode cX7_tell 28 = .ok (.ifCond .le 8, 3) := by decide +kernel
theorem dX7_tell_31 : decode cX7_tell 31 = .ok (.aload_n 0, 1) := by decide +kernel
theorem dX7_tell_32 : decode cX7_tell 32 = .ok (.iconst 2, 1) := by decide +kernel
theorem dX7_tell_33 : decode cX7_tell 33 = .ok (.invokevirtual 241, 3) := by decide +kernel
theorem dX7_tell_36 : decode cX7_tell 36 = .ok (.aload_n 0, 1) := by decide +kernel
theorem dX7_tell_37 : decode cX7_tell 37 = .ok (.iconst 1, 1) := by decide +kernel
theorem dX7_tell_38 : decode cX7_tell 38 = .ok (.invokevirtual 241, 3) := by decide +kernel
theorem dX7_tell_41 : decode cX7_tell 41 = .ok (.iload_n 2, 1) := by decide +kernel
theorem dX7_tell_42 : decode cX7_tell 42 = .ok (.iconst 2, 1) := by decide +kernel
theorem dX7_tell_43 : decode cX7_tell 43 = .ok (.if_icmp .ne 8, 3) := by decide +kernel
theorem dX7_tell_46 : decode cX7_tell 46 = .ok (.aload_n 0, 1) := by decide +kernel
theorem dX7_tell_47 : decode cX7_tell 47 = .ok (.iconst 1, 1) := by decide +kernel
theorem dX7_tell_48 : decode cX7_tell 48 = .ok (.invokevirtual 241, 3) := by decide +kernel
theorem dX7_tell_51 : decode cX7_tell 51 = .ok (.aload_n 0, 1) := by decide +kernel
theorem dX7_tell_52 : decode cX7_tell 52 = .ok (.getfield 13, 3) := by decide +kernel
theorem dX7_tell_55 : decode cX7_tell 55 = .ok (.iload_n 1, 1) := by decide +kernel
theorem dX7_tell_56 : decode cX7_tell 56 = .ok (.iaload, 1) := by decide +kernel
theorem dX7_tell_57 : decode cX7_tell 57 = .ok (.istore_n 3, 1) := by decide +kernel
theorem dX7_tell_58 : decode cX7_tell 58 = .ok (.iload_n 2, 1) := by decide +kernel
theorem dX7_tell_59 : decode cX7_tell 59 = .ok (.ifCond .ne 7, 3) := by decide +kernel
theorem dX7_tell_62 : decode cX7_tell 62 = .ok (.iload_n 3, 1) := by decide +kernel
theorem dX7_tell_63 : decode cX7_tell 63 = .ok (.goto 21, 3) := by decide +kernel
theorem dX7_tell_66 : decode cX7_tell 66 = .ok (.iload_n 2, 1) := by decide +kernel
theorem dX7_tell_67 : decode cX7_tell 67 = .ok (.iconst 1, 1) := by decide +kernel
theorem dX7_tell_68 : decode cX7_tell 68 = .ok (.if_icmp .ne 10, 3) := by decide +kernel
theorem dX7_tell_71 : decode cX7_tell 71 = .ok (.iload_n 3, 1) := by decide +kernel
theorem dX7_tell_72 : decode cX7_tell 72 = .ok (.bipush 100, 2) := by decide +kernel
theorem dX7_tell_74 : decode cX7_tell 74 = .ok (.iadd, 1) := by decide +kernel
theorem dX7_tell_75 : decode cX7_tell 75 = .ok (.goto 9, 3) := by decide +kernel
theorem dX7_tell_78 : decode cX7_tell 78 = .ok (.iconst 2, 1) := by decide +kernel
theorem dX7_tell_79 : decode cX7_tell 79 = .ok (.iload_n 3, 1) := by decide +kernel
theorem dX7_tell_80 : decode cX7_tell 80 = .ok (.imul, 1) := by decide +kernel
theorem dX7_tell_81 : decode cX7_tell 81 = .ok (.bipush 100, 2) := by decide +kernel
theorem dX7_tell_83 : decode cX7_tell 83 = .ok (.iadd, 1) := by decide +kernel
theorem dX7_tell_84 : decode cX7_tell 84 = .ok (.ireturn, 1) := by decide +kernel
theorem dX7_light_0 : decode cX7_light 0 = .ok (.aload_n 0, 1) := by decide +kernel
theorem dX7_light_1 : decode cX7_light 1 = .ok (.iload_n 1, 1) := by decide +kernel
theorem dX7_light_2 : decode cX7_light 2 = .ok (.invokevirtual 159, 3) := by decide +kernel
theorem dX7_light_5 : decode cX7_light 5 = .ok (.ifCond .eq 5, 3) := by decide +kernel
theorem dX7_light_8 : decode cX7_light 8 = .ok (.iconst (-1), 1) := by decide +kernel
theorem dX7_light_9 : decode cX7_light 9 = .ok (.ireturn, 1) := by decide +kernel
theorem dX7_light_10 : decode cX7_light 10 = .ok (.aload_n 0, 1) := by decide +kernel
theorem dX7_light_11 : decode cX7_light 11 = .ok (.aload_n 0, 1) := by decide +kernel
theorem dX7_light_12 : decode cX7_light 12 = .ok (.getfield 7, 3) := by decide +kernel
theorem dX7_light_15 : decode cX7_light 15 = .ok (.iload_n 1, 1) := by decide +kernel
theorem dX7_light_16 : decode cX7_light 16 = .ok (.iaload, 1) := by decide +kernel
theorem dX7_light_17 : decode cX7_light 17 = .ok (.iconst 2, 1) := by decide +kernel
theorem dX7_light_18 : decode cX7_light 18 = .ok (.if_icmp .ne 7, 3) := by decide +kernel
theorem dX7_light_21 : decode cX7_light 21 = .ok (.iconst 5, 1) := by decide +kernel
theorem dX7_light_22 : decode cX7_light 22 = .ok (.goto 4, 3) := by decide +kernel
theorem dX7_light_25 : decode cX7_light 25 = .ok (.iconst 4, 1) := by decide +kernel
theorem dX7_light_26 : decode cX7_light 26 = .ok (.invokevirtual 241, 3) := by decide +kernel
theorem dX7_light_29 : decode cX7_light 29 = .ok (.aload_n 0, 1) := by decide +kernel
theorem dX7_light_30 : decode cX7_light 30 = .ok (.getfield 7, 3) := by decide +kernel
theorem dX7_light_33 : decode cX7_light 33 = .ok (.iload_n 1, 1) := by decide +kernel
theorem dX7_light_34 : decode cX7_light 34 = .ok (.iaload, 1) := by decide +kernel
theorem dX7_light_35 : decode cX7_light 35 = .ok (.iconst 2, 1) := by decide +kernel
theorem dX7_light_36 : decode cX7_light 36 = .ok (.if_icmp .ne 8, 3) := by decide +kernel
theorem dX7_light_39 : decode cX7_light 39 = .ok (.bipush 80, 2) := by decide +kernel
theorem dX7_light_41 : decode cX7_light 41 = .ok (.goto 4, 3) := by decide +kernel
theorem dX7_light_44 : decode cX7_light 44 = .ok (.iload_n 1, 1) := by decide +kernel
theorem dX7_light_45 : decode cX7_light 45 = .ok (.ireturn, 1) := by decide +kernel
theorem dX7_as_0 : decode cX7_as 0 = .ok (.aload_n 0, 1) := by decide +kernel
theorem dX7_as_1 : decode cX7_as 1 = .ok (.iload_n 1, 1) := by decide +kernel
theorem dX7_as_2 : decode cX7_as 2 = .ok (.invokevirtual 159, 3) := by decide +kernel
theorem dX7_as_5 : decode cX7_as 5 = .ok (.ifCond .eq 9, 3) := by decide +kernel
theorem dX7_as_8 : decode cX7_as 8 = .ok (.aload_n 0, 1) := by decide +kernel
theorem dX7_as_9 : decode cX7_as 9 = .ok (.iconst (-1), 1) := by decide +kernel
theorem dX7_as_10 : decode cX7_as 10 = .ok (.invokevirtual 141, 3) := by decide +kernel
theorem dX7_as_13 : decode cX7_as 13 = .ok (.ireturn, 1) := by decide +kernel
theorem dX7_as_14 : decode cX7_as 14 = .ok (.iload_n 2, 1) := by decide +kernel
theorem dX7_as_15 : decode cX7_as 15 = .ok (.i2l, 1) := by decide +kernel
theorem dX7_as_16 : decode cX7_as 16 = .ok (.lconst 0, 1) := by decide +kernel
theorem dX7_as_17 : decode cX7_as 17 = .ok (.ldc2_w 144, 3) := by decide +kernel
theorem dX7_as_20 : decode cX7_as 20 = .ok (.invokestatic 89, 3) := by decide +kernel
theorem dX7_as_23 : decode cX7_as 23 = .ok (.ifCond .ne 10, 3) := by decide +kernel
theorem dX7_as_26 : decode cX7_as 26 = .ok (.aload_n 0, 1) := by decide +kernel
theorem dX7_as_27 : decode cX7_as 27 = .ok (.bipush (-2), 2) := by decide +kernel
theorem dX7_as_29 : decode cX7_as 29 = .ok (.invokevirtual 141, 3) := by decide +kernel
theorem dX7_as_32 : decode cX7_as 32 = .ok (.ireturn, 1) := by decide +kernel
theorem dX7_as_33 : decode cX7_as 33 = .ok (.aload_n 0, 1) := by decide +kernel
theorem dX7_as_34 : decode cX7_as 34 = .ok (.getfield 7, 3) := by decide +kernel
theorem dX7_as_37 : decode cX7_as 37 = .ok (.iload_n 1, 1) := by decide +kernel
theorem dX7_as_38 : decode cX7_as 38 = .ok (.iaload, 1) := by decide +kernel
theorem dX7_as_39 : decode cX7_as 39 = .ok (.iload_n 2, 1) := by decide +kernel
theorem dX7_as_40 : decode cX7_as 40 = .ok (.if_icmp .lt 11, 3) := by decide +kernel
theorem dX7_as_43 : decode cX7_as 43 = .ok (.aload_n 0, 1) := by decide +kernel
theorem dX7_as_44 : decode cX7_as 44 = .ok (.iconst 1, 1) := by decide +kernel
theorem dX7_as_45 : decode cX7_as 45 = .ok (.invokevirtual 141, 3) := by decide +kernel
theorem dX7_as_48 : decode cX7_as 48 = .ok (.goto 8, 3) := by decide +kernel
theorem dX7_as_51 : decode cX7_as 51 = .ok (.aload_n 0, 1) := by decide +kernel
theorem dX7_as_52 : decode cX7_as 52 = .ok (.iconst 2, 1) := by decide +kernel
theorem dX7_as_53 : decode cX7_as 53 = .ok (.invokevirtual 129, 3) := by decide +kernel
theorem dX7_as_56 : decode cX7_as 56 = .ok (.ireturn, 1) := by decide +kernel
theorem dX7_trace_0 : decode cX7_trace 0 = .ok (.aload_n 0, 1) := by decide +kernel
theorem dX7_trace_1 : decode cX7_trace 1 = .ok (.getfield 238, 3) := by decide +kernel
theorem dX7_trace_4 : decode cX7_trace 4 = .ok (.ireturn, 1) := by decide +kernel
theorem dX7_fault_0 : decode cX7_fault 0 = .ok (.aload_n 0, 1) := by decide +kernel
theorem dX7_fault_1 : decode cX7_fault 1 = .ok (.getfield 79, 3) := by decide +kernel
theorem dX7_fault_4 : decode cX7_fault 4 = .ok (.ireturn, 1) := by decide +kernel
theorem dX7_many_0 : decode cX7_many 0 = .ok (.iload_n 1, 1) := by decide +kernel
theorem dX7_many_1 : decode cX7_many 1 = .ok (.tableswitch 60 0 4 #[35, 40, 45, 50, 55], 35) := by decide +kernel
theorem dX7_many_36 : decode cX7_many 36 = .ok (.aload_n 0, 1) := by decide +kernel
theorem dX7_many_37 : decode cX7_many 37 = .ok (.getfield 86, 3) := by decide +kernel
theorem dX7_many_40 : decode cX7_many 40 = .ok (.ireturn, 1) := by decide +kernel
theorem dX7_many_41 : decode cX7_many 41 = .ok (.aload_n 0, 1) := by decide +kernel
theorem dX7_many_42 : decode cX7_many 42 = .ok (.getfield 96, 3) := by decide +kernel
theorem dX7_many_45 : decode cX7_many 45 = .ok (.ireturn, 1) := by decide +kernel
theorem dX7_many_46 : decode cX7_many 46 = .ok (.aload_n 0, 1) := by decide +kernel
theorem dX7_many_47 : decode cX7_many 47 = .ok (.getfield 93, 3) := by decide +kernel
theorem dX7_many_50 : decode cX7_many 50 = .ok (.ireturn, 1) := by decide +kernel
theorem dX7_many_51 : decode cX7_many 51 = .ok (.aload_n 0, 1) := by decide +kernel
theorem dX7_many_52 : decode cX7_many 52 = .ok (.getfield 153, 3) := by decide +kernel
theorem dX7_many_55 : decode cX7_many 55 = .ok (.ireturn, 1) := by decide +kernel
theorem dX7_many_56 : decode cX7_many 56 = .ok (.aload_n 0, 1) := by decide +kernel
theorem dX7_many_57 : decode cX7_many 57 = .ok (.getfield 156, 3) := by decide +kernel
theorem dX7_many_60 : decode cX7_many 60 = .ok (.ireturn, 1) := by decide +kernel
theorem dX7_many_61 : decode cX7_many 61 = .ok (.bipush (-2), 2) := by decide +kernel
theorem dX7_many_63 : decode cX7_many 63 = .ok (.ireturn, 1) := by decide +kernel
theorem dJ6_bitCount_0f7a4_0 : decode cJ6_bitCount_0f7a4 0 = .ok (.iload_n 0, 1) := by decide +kernel
theorem dJ6_bitCount_0f7a4_1 : decode cJ6_bitCount_0f7a4 1 = .ok (.iload_n 0, 1) := by decide +kernel
theorem dJ6_bitCount_0f7a4_2 : decode cJ6_bitCount_0f7a4 2 = .ok (.iconst 1, 1) := by decide +kernel
theorem dJ6_bitCount_0f7a4_3 : decode cJ6_bitCount_0f7a4 3 = .ok (.iushr, 1) := by decide +kernel
theorem dJ6_bitCount_0f7a4_4 : decode cJ6_bitCount_0f7a4 4 = .ok (.ldc_w 265, 3) := by decide +kernel
theorem dJ6_bitCount_0f7a4_7 : decode cJ6_bitCount_0f7a4 7 = .ok (.iand, 1) := by decide +kernel
theorem dJ6_bitCount_0f7a4_8 : decode cJ6_bitCount_0f7a4 8 = .ok (.isub, 1) := by decide +kernel
theorem dJ6_bitCount_0f7a4_9 : decode cJ6_bitCount_0f7a4 9 = .ok (.istore_n 0, 1) := by decide +kernel
theorem dJ6_bitCount_0f7a4_10 : decode cJ6_bitCount_0f7a4 10 = .ok (.iload_n 0, 1) := by decide +kernel
theorem dJ6_bitCount_0f7a4_11 : decode cJ6_bitCount_0f7a4 11 = .ok (.ldc_w 266, 3) := by decide +kernel
theorem dJ6_bitCount_0f7a4_14 : decode cJ6_bitCount_0f7a4 14 = .ok (.iand, 1) := by decide +kernel
theorem dJ6_bitCount_0f7a4_15 : decode cJ6_bitCount_0f7a4 15 = .ok (.iload_n 0, 1) := by decide +kernel
theorem dJ6_bitCount_0f7a4_16 : decode cJ6_bitCount_0f7a4 16 = .ok (.iconst 2, 1) := by decide +kernel
theorem dJ6_bitCount_0f7a4_17 : decode cJ6_bitCount_0f7a4 17 = .ok (.iushr, 1) := by decide +kernel
theorem dJ6_bitCount_0f7a4_18 : decode cJ6_bitCount_0f7a4 18 = .ok (.ldc_w 266, 3) := by decide +kernel
theorem dJ6_bitCount_0f7a4_21 : decode cJ6_bitCount_0f7a4 21 = .ok (.iand, 1) := by decide +kernel
theorem dJ6_bitCount_0f7a4_22 : decode cJ6_bitCount_0f7a4 22 = .ok (.iadd, 1) := by decide +kernel
theorem dJ6_bitCount_0f7a4_23 : decode cJ6_bitCount_0f7a4 23 = .ok (.istore_n 0, 1) := by decide +kernel
theorem dJ6_bitCount_0f7a4_24 : decode cJ6_bitCount_0f7a4 24 = .ok (.iload_n 0, 1) := by decide +kernel
theorem dJ6_bitCount_0f7a4_25 : decode cJ6_bitCount_0f7a4 25 = .ok (.iload_n 0, 1) := by decide +kernel
theorem dJ6_bitCount_0f7a4_26 : decode cJ6_bitCount_0f7a4 26 = .ok (.iconst 4, 1) := by decide +kernel
theorem dJ6_bitCount_0f7a4_27 : decode cJ6_bitCount_0f7a4 27 = .ok (.iushr, 1) := by decide +kernel
theorem dJ6_bitCount_0f7a4_28 : decode cJ6_bitCount_0f7a4 28 = .ok (.iadd, 1) := by decide +kernel
theorem dJ6_bitCount_0f7a4_29 : decode cJ6_bitCount_0f7a4 29 = .ok (.ldc_w 267, 3) := by decide +kernel
theorem dJ6_bitCount_0f7a4_32 : decode cJ6_bitCount_0f7a4 32 = .ok (.iand, 1) := by decide +kernel
theorem dJ6_bitCount_0f7a4_33 : decode cJ6_bitCount_0f7a4 33 = .ok (.istore_n 0, 1) := by decide +kernel
theorem dJ6_bitCount_0f7a4_34 : decode cJ6_bitCount_0f7a4 34 = .ok (.iload_n 0, 1) := by decide +kernel
theorem dJ6_bitCount_0f7a4_35 : decode cJ6_bitCount_0f7a4 35 = .ok (.iload_n 0, 1) := by decide +kernel
theorem dJ6_bitCount_0f7a4_36 : decode cJ6_bitCount_0f7a4 36 = .ok (.bipush 8, 2) := by decide +kernel
theorem dJ6_bitCount_0f7a4_38 : decode cJ6_bitCount_0f7a4 38 = .ok (.iushr, 1) := by decide +kernel
theorem dJ6_bitCount_0f7a4_39 : decode cJ6_bitCount_0f7a4 39 = .ok (.iadd, 1) := by decide +kernel
theorem dJ6_bitCount_0f7a4_40 : decode cJ6_bitCount_0f7a4 40 = .ok (.istore_n 0, 1) := by decide +kernel
theorem dJ6_bitCount_0f7a4_41 : decode cJ6_bitCount_0f7a4 41 = .ok (.iload_n 0, 1) := by decide +kernel
theorem dJ6_bitCount_0f7a4_42 : decode cJ6_bitCount_0f7a4 42 = .ok (.iload_n 0, 1) := by decide +kernel
theorem dJ6_bitCount_0f7a4_43 : decode cJ6_bitCount_0f7a4 43 = .ok (.bipush 16, 2) := by decide +kernel
theorem dJ6_bitCount_0f7a4_45 : decode cJ6_bitCount_0f7a4 45 = .ok (.iushr, 1) := by decide +kernel
theorem dJ6_bitCount_0f7a4_46 : decode cJ6_bitCount_0f7a4 46 = .ok (.iadd, 1) := by decide +kernel
theorem dJ6_bitCount_0f7a4_47 : decode cJ6_bitCount_0f7a4 47 = .ok (.istore_n 0, 1) := by decide +kernel
theorem dJ6_bitCount_0f7a4_48 : decode cJ6_bitCount_0f7a4 48 = .ok (.iload_n 0, 1) := by decide +kernel
theorem dJ6_bitCount_0f7a4_49 : decode cJ6_bitCount_0f7a4 49 = .ok (.bipush 63, 2) := by decide +kernel
theorem dJ6_bitCount_0f7a4_51 : decode cJ6_bitCount_0f7a4 51 = .ok (.iand, 1) := by decide +kernel
theorem dJ6_bitCount_0f7a4_52 : decode cJ6_bitCount_0f7a4 52 = .ok (.ireturn, 1) := by decide +kernel
theorem dJ9_max_7cf53_0 : decode cJ9_max_7cf53 0 = .ok (.iload_n 0, 1) := by decide +kernel
theorem dJ9_max_7cf53_1 : decode cJ9_max_7cf53 1 = .ok (.iload_n 1, 1) := by decide +kernel
theorem dJ9_max_7cf53_2 : decode cJ9_max_7cf53 2 = .ok (.if_icmp .lt 7, 3) := by decide +kernel
theorem dJ9_max_7cf53_5 : decode cJ9_max_7cf53 5 = .ok (.iload_n 0, 1) := by decide +kernel
theorem dJ9_max_7cf53_6 : decode cJ9_max_7cf53 6 = .ok (.goto 4, 3) := by decide +kernel
theorem dJ9_max_7cf53_9 : decode cJ9_max_7cf53 9 = .ok (.iload_n 1, 1) := by decide +kernel
theorem dJ9_max_7cf53_10 : decode cJ9_max_7cf53 10 = .ok (.ireturn, 1) := by decide +kernel
theorem dJ9_min_7cf53_0 : decode cJ9_min_7cf53 0 = .ok (.iload_n 0, 1) := by decide +kernel
theorem dJ9_min_7cf53_1 : decode cJ9_min_7cf53 1 = .ok (.iload_n 1, 1) := by decide +kernel
theorem dJ9_min_7cf53_2 : decode cJ9_min_7cf53 2 = .ok (.if_icmp .gt 7, 3) := by decide +kernel
theorem dJ9_min_7cf53_5 : decode cJ9_min_7cf53 5 = .ok (.iload_n 0, 1) := by decide +kernel
theorem dJ9_min_7cf53_6 : decode cJ9_min_7cf53 6 = .ok (.goto 4, 3) := by decide +kernel
theorem dJ9_min_7cf53_9 : decode cJ9_min_7cf53 9 = .ok (.iload_n 1, 1) := by decide +kernel
theorem dJ9_min_7cf53_10 : decode cJ9_min_7cf53 10 = .ok (.ireturn, 1) := by decide +kernel
theorem dL_law_0 : decode cL_law 0 = .ok (.new 7, 3) := by decide +kernel
theorem dL_law_3 : decode cL_law 3 = .ok (.dup, 1) := by decide +kernel
theorem dL_law_4 : decode cL_law 4 = .ok (.invokespecial 9, 3) := by decide +kernel
theorem dL_law_7 : decode cL_law 7 = .ok (.astore_n 1, 1) := by decide +kernel
theorem dL_law_8 : decode cL_law 8 = .ok (.new 10, 3) := by decide +kernel
theorem dL_law_11 : decode cL_law 11 = .ok (.dup, 1) := by decide +kernel
theorem dL_law_12 : decode cL_law 12 = .ok (.invokespecial 12, 3) := by decide +kernel
theorem dL_law_15 : decode cL_law 15 = .ok (.astore_n 2, 1) := by decide +kernel
theorem dL_law_16 : decode cL_law 16 = .ok (.iconst 0, 1) := by decide +kernel
theorem dL_law_17 : decode cL_law 17 = .ok (.istore_n 3, 1) := by decide +kernel
theorem dL_law_18 : decode cL_law 18 = .ok (.iload_n 3, 1) := by decide +kernel
theorem dL_law_19 : decode cL_law 19 = .ok (.aload_n 0, 1) := by decide +kernel
theorem dL_law_20 : decode cL_law 20 = .ok (.arraylength, 1) := by decide +kernel
theorem dL_law_21 : decode cL_law 21 = .ok (.bipush 6, 2) := by decide +kernel
theorem dL_law_23 : decode cL_law 23 = .ok (.isub, 1) := by decide +kernel
theorem dL_law_24 : decode cL_law 24 = .ok (.if_icmp .gt 1329, 3) := by decide +kernel
theorem dL_law_27 : decode cL_law 27 = .ok (.aload_n 0, 1) := by decide +kernel
theorem dL_law_28 : decode cL_law 28 = .ok (.iload_n 3, 1) := by decide +kernel
theorem dL_law_29 : decode cL_law 29 = .ok (.iaload, 1) := by decide +kernel
theorem dL_law_30 : decode cL_law 30 = .ok (.bipush 63, 2) := by decide +kernel
theorem dL_law_32 : decode cL_law 32 = .ok (.iand, 1) := by decide +kernel
theorem dL_law_33 : decode cL_law 33 = .ok (.tableswitch 1314 0 34 #[155, 208, 241, 274, 307, 330, 363, 412, 445, 504, 537, 570, 603, 666, 689, 722, 755, 778, 821, 844, 857, 880, 903, 926, 970, 1013, 1036, 1079, 1123, 1186, 1209, 1232, 1265, 1278, 1291], 155) := by decide +kernel
theorem dL_law_188 : decode cL_law 188 = .ok (.aload_n 1, 1) := by decide +kernel
theorem dL_law_189 : decode cL_law 189 = .ok (.aload_n 0, 1) := by decide +kernel
theorem dL_law_190 : decode cL_law 190 = .ok (.iload_n 3, 1) := by decide +kernel
theorem dL_law_191 : decode cL_law 191 = .ok (.iconst 1, 1) := by decide +kernel
theorem dL_law_192 : decode cL_law 192 = .ok (.iadd, 1) := by decide +kernel
theorem dL_law_193 : decode cL_law 193 = .ok (.iaload, 1) := by decide +kernel
theorem dL_law_194 : decode cL_law 194 = .ok (.aload_n 0, 1) := by decide +kernel
theorem dL_law_195 : decode cL_law 195 = .ok (.iload_n 3, 1) := by decide +kernel
theorem dL_law_196 : decode cL_law 196 = .ok (.iconst 2, 1) := by decide +kernel
theorem dL_law_197 : decode cL_law 197 = .ok (.iadd, 1) := by decide +kernel
theorem dL_law_198 : decode cL_law 198 = .ok (.iaload, 1) := by decide +kernel
theorem dL_law_199 : decode cL_law 199 = .ok (.aload_n 0, 1) := by decide +kernel
theorem dL_law_200 : decode cL_law 200 = .ok (.iload_n 3, 1) := by decide +kernel
theorem dL_law_201 : decode cL_law 201 = .ok (.iconst 3, 1) := by decide +kernel
theorem dL_law_202 : decode cL_law 202 = .ok (.iadd, 1) := by decide +kernel
theorem dL_law_203 : decode cL_law 203 = .ok (.iaload, 1) := by decide +kernel
theorem dL_law_204 : decode cL_law 204 = .ok (.aload_n 0, 1) := by decide +kernel
theorem dL_law_205 : decode cL_law 205 = .ok (.iload_n 3, 1) := by decide +kernel
theorem dL_law_206 : decode cL_law 206 = .ok (.iconst 4, 1) := by decide +kernel
theorem dL_law_207 : decode cL_law 207 = .ok (.iadd, 1) := by decide +kernel
theorem dL_law_208 : decode cL_law 208 = .ok (.iaload, 1) := by decide +kernel
theorem dL_law_209 : decode cL_law 209 = .ok (.invokevirtual 13, 3) := by decide +kernel
theorem dL_law_212 : decode cL_law 212 = .ok (.aload_n 2, 1) := by decide +kernel
theorem dL_law_213 : decode cL_law 213 = .ok (.aload_n 0, 1) := by decide +kernel
theorem dL_law_214 : decode cL_law 214 = .ok (.iload_n 3, 1) := by decide +kernel
theorem dL_law_215 : decode cL_law 215 = .ok (.iconst 1, 1) := by decide +kernel
theorem dL_law_216 : decode cL_law 216 = .ok (.iadd, 1) := by decide +kernel
theorem dL_law_217 : decode cL_law 217 = .ok (.iaload, 1) := by decide +kernel
theorem dL_law_218 : decode cL_law 218 = .ok (.aload_n 0, 1) := by decide +kernel
theorem dL_law_219 : decode cL_law 219 = .ok (.iload_n 3, 1) := by decide +kernel
theorem dL_law_220 : decode cL_law 220 = .ok (.iconst 2, 1) := by decide +kernel
theorem dL_law_221 : decode cL_law 221 = .ok (.iadd, 1) := by decide +kernel
theorem dL_law_222 : decode cL_law 222 = .ok (.iaload, 1) := by decide +kernel
theorem dL_law_223 : decode cL_law 223 = .ok (.aload_n 0, 1) := by decide +kernel
theorem dL_law_224 : decode cL_law 224 = .ok (.iload_n 3, 1) := by decide +kernel
end
section
theorem dL_law_225 : decode cL_law 225 = .ok (.iconst 3, 1) := by decide +kernel
theorem dL_law_226 : decode cL_law 226 = .ok (.iadd, 1) := by decide +kernel
theorem dL_law_227 : decode cL_law 227 = .ok (.iaload, 1) := by decide +kernel
theorem dL_law_228 : decode cL_law 228 = .ok (.aload_n 0, 1) := by decide +kernel
theorem dL_law_229 : decode cL_law 229 = .ok (.iload_n 3, 1) := by decide +kernel
theorem dL_law_230 : decode cL_law 230 = .ok (.iconst 4, 1) := by decide +kernel
theorem dL_law_231 : decode cL_law 231 = .ok (.iadd, 1) := by decide +kernel
theorem dL_law_232 : decode cL_law 232 = .ok (.iaload, 1) := by decide +kernel
theorem dL_law_233 : decode cL_law 233 = .ok (.invokevirtual 17, 3) := by decide +kernel
theorem dL_law_236 : decode cL_law 236 = .ok (.if_icmp .eq 1111, 3) := by decide +kernel
theorem dL_law_239 : decode cL_law 239 = .ok (.iconst 0, 1) := by decide +kernel
theorem dL_law_240 : decode cL_law 240 = .ok (.ireturn, 1) := by decide +kernel
theorem dL_law_241 : decode cL_law 241 = .ok (.aload_n 1, 1) := by decide +kernel
theorem dL_law_242 : decode cL_law 242 = .ok (.aload_n 0, 1) := by decide +kernel
theorem dL_law_243 : decode cL_law 243 = .ok (.iload_n 3, 1) := by decide +kernel
theorem dL_law_244 : decode cL_law 244 = .ok (.iconst 1, 1) := by decide +kernel
theorem dL_law_245 : decode cL_law 245 = .ok (.iadd, 1) := by decide +kernel
theorem dL_law_246 : decode cL_law 246 = .ok (.iaload, 1) := by decide +kernel
theorem dL_law_247 : decode cL_law 247 = .ok (.aload_n 0, 1) := by decide +kernel
theorem dL_law_248 : decode cL_law 248 = .ok (.iload_n 3, 1) := by decide +kernel
theorem dL_law_249 : decode cL_law 249 = .ok (.iconst 2, 1) := by decide +kernel
theorem dL_law_250 : decode cL_law 250 = .ok (.iadd, 1) := by decide +kernel
theorem dL_law_251 : decode cL_law 251 = .ok (.iaload, 1) := by decide +kernel
theorem dL_law_252 : decode cL_law 252 = .ok (.invokevirtual 18, 3) := by decide +kernel
theorem dL_law_255 : decode cL_law 255 = .ok (.aload_n 2, 1) := by decide +kernel
theorem dL_law_256 : decode cL_law 256 = .ok (.aload_n 0, 1) := by decide +kernel
theorem dL_law_257 : decode cL_law 257 = .ok (.iload_n 3, 1) := by decide +kernel
theorem dL_law_258 : decode cL_law 258 = .ok (.iconst 1, 1) := by decide +kernel
theorem dL_law_259 : decode cL_law 259 = .ok (.iadd, 1) := by decide +kernel
theorem dL_law_260 : decode cL_law 260 = .ok (.iaload, 1) := by decide +kernel
theorem dL_law_261 : decode cL_law 261 = .ok (.aload_n 0, 1) := by decide +kernel
theorem dL_law_262 : decode cL_law 262 = .ok (.iload_n 3, 1) := by decide +kernel
theorem dL_law_263 : decode cL_law 263 = .ok (.iconst 2, 1) := by decide +kernel
theorem dL_law_264 : decode cL_law 264 = .ok (.iadd, 1) := by decide +kernel
theorem dL_law_265 : decode cL_law 265 = .ok (.iaload, 1) := by decide +kernel
theorem dL_law_266 : decode cL_law 266 = .ok (.invokevirtual 22, 3) := by decide +kernel
theorem dL_law_269 : decode cL_law 269 = .ok (.if_icmp .eq 1078, 3) := by decide +kernel
theorem dL_law_272 : decode cL_law 272 = .ok (.iconst 0, 1) := by decide +kernel
theorem dL_law_273 : decode cL_law 273 = .ok (.ireturn, 1) := by decide +kernel
theorem dL_law_274 : decode cL_law 274 = .ok (.aload_n 1, 1) := by decide +kernel
theorem dL_law_275 : decode cL_law 275 = .ok (.aload_n 0, 1) := by decide +kernel
theorem dL_law_276 : decode cL_law 276 = .ok (.iload_n 3, 1) := by decide +kernel
theorem dL_law_277 : decode cL_law 277 = .ok (.iconst 1, 1) := by decide +kernel
theorem dL_law_278 : decode cL_law 278 = .ok (.iadd, 1) := by decide +kernel
theorem dL_law_279 : decode cL_law 279 = .ok (.iaload, 1) := by decide +kernel
theorem dL_law_280 : decode cL_law 280 = .ok (.aload_n 0, 1) := by decide +kernel
theorem dL_law_281 : decode cL_law 281 = .ok (.iload_n 3, 1) := by decide +kernel
theorem dL_law_282 : decode cL_law 282 = .ok (.iconst 2, 1) := by decide +kernel
theorem dL_law_283 : decode cL_law 283 = .ok (.iadd, 1) := by decide +kernel
theorem dL_law_284 : decode cL_law 284 = .ok (.iaload, 1) := by decide +kernel
theorem dL_law_285 : decode cL_law 285 = .ok (.invokevirtual 23, 3) := by decide +kernel
theorem dL_law_288 : decode cL_law 288 = .ok (.aload_n 2, 1) := by decide +kernel
theorem dL_law_289 : decode cL_law 289 = .ok (.aload_n 0, 1) := by decide +kernel
theorem dL_law_290 : decode cL_law 290 = .ok (.iload_n 3, 1) := by decide +kernel
theorem dL_law_291 : decode cL_law 291 = .ok (.iconst 1, 1) := by decide +kernel
theorem dL_law_292 : decode cL_law 292 = .ok (.iadd, 1) := by decide +kernel
theorem dL_law_293 : decode cL_law 293 = .ok (.iaload, 1) := by decide +kernel
theorem dL_law_294 : decode cL_law 294 = .ok (.aload_n 0, 1) := by decide +kernel
theorem dL_law_295 : decode cL_law 295 = .ok (.iload_n 3, 1) := by decide +kernel
theorem dL_law_296 : decode cL_law 296 = .ok (.iconst 2, 1) := by decide +kernel
theorem dL_law_297 : decode cL_law 297 = .ok (.iadd, 1) := by decide +kernel
theorem dL_law_298 : decode cL_law 298 = .ok (.iaload, 1) := by decide +kernel
theorem dL_law_299 : decode cL_law 299 = .ok (.invokevirtual 26, 3) := by decide +kernel
theorem dL_law_302 : decode cL_law 302 = .ok (.if_icmp .eq 1045, 3) := by decide +kernel
theorem dL_law_305 : decode cL_law 305 = .ok (.iconst 0, 1) := by decide +kernel
theorem dL_law_306 : decode cL_law 306 = .ok (.ireturn, 1) := by decide +kernel
theorem dL_law_307 : decode cL_law 307 = .ok (.aload_n 1, 1) := by decide +kernel
theorem dL_law_308 : decode cL_law 308 = .ok (.aload_n 0, 1) := by decide +kernel
theorem dL_law_309 : decode cL_law 309 = .ok (.iload_n 3, 1) := by decide +kernel
theorem dL_law_310 : decode cL_law 310 = .ok (.iconst 1, 1) := by decide +kernel
theorem dL_law_311 : decode cL_law 311 = .ok (.iadd, 1) := by decide +kernel
theorem dL_law_312 : decode cL_law 312 = .ok (.iaload, 1) := by decide +kernel
theorem dL_law_313 : decode cL_law 313 = .ok (.aload_n 0, 1) := by decide +kernel
theorem dL_law_314 : decode cL_law 314 = .ok (.iload_n 3, 1) := by decide +kernel
theorem dL_law_315 : decode cL_law 315 = .ok (.iconst 2, 1) := by decide +kernel
theorem dL_law_316 : decode cL_law 316 = .ok (.iadd, 1) := by decide +kernel
theorem dL_law_317 : decode cL_law 317 = .ok (.iaload, 1) := by decide +kernel
theorem dL_law_318 : decode cL_law 318 = .ok (.invokevirtual 27, 3) := by decide +kernel
theorem dL_law_321 : decode cL_law 321 = .ok (.aload_n 2, 1) := by decide +kernel
theorem dL_law_322 : decode cL_law 322 = .ok (.aload_n 0, 1) := by decide +kernel
theorem dL_law_323 : decode cL_law 323 = .ok (.iload_n 3, 1) := by decide +kernel
theorem dL_law_324 : decode cL_law 324 = .ok (.iconst 1, 1) := by decide +kernel
theorem dL_law_325 : decode cL_law 325 = .ok (.iadd, 1) := by decide +kernel
theorem dL_law_326 : decode cL_law 326 = .ok (.iaload, 1) := by decide +kernel
theorem dL_law_327 : decode cL_law 327 = .ok (.aload_n 0, 1) := by decide +kernel
theorem dL_law_328 : decode cL_law 328 = .ok (.iload_n 3, 1) := by decide +kernel
theorem dL_law_329 : decode cL_law 329 = .ok (.iconst 2, 1) := by decide +kernel
theorem dL_law_330 : decode cL_law 330 = .ok (.iadd, 1) := by decide +kernel
theorem dL_law_331 : decode cL_law 331 = .ok (.iaload, 1) := by decide +kernel
theorem dL_law_332 : decode cL_law 332 = .ok (.invokevirtual 30, 3) := by decide +kernel
theorem dL_law_335 : decode cL_law 335 = .ok (.if_icmp .eq 1012, 3) := by decide +kernel
theorem dL_law_338 : decode cL_law 338 = .ok (.iconst 0, 1) := by decide +kernel
theorem dL_law_339 : decode cL_law 339 = .ok (.ireturn, 1) := by decide +kernel
theorem dL_law_340 : decode cL_law 340 = .ok (.aload_n 1, 1) := by decide +kernel
theorem dL_law_341 : decode cL_law 341 = .ok (.aload_n 0, 1) := by decide +kernel
theorem dL_law_342 : decode cL_law 342 = .ok (.iload_n 3, 1) := by decide +kernel
theorem dL_law_343 : decode cL_law 343 = .ok (.iconst 1, 1) := by decide +kernel
theorem dL_law_344 : decode cL_law 344 = .ok (.iadd, 1) := by decide +kernel
theorem dL_law_345 : decode cL_law 345 = .ok (.iaload, 1) := by decide +kernel
theorem dL_law_346 : decode cL_law 346 = .ok (.invokevirtual 31, 3) := by decide +kernel
theorem dL_law_349 : decode cL_law 349 = .ok (.aload_n 2, 1) := by decide +kernel
theorem dL_law_350 : decode cL_law 350 = .ok (.aload_n 0, 1) := by decide +kernel
theorem dL_law_351 : decode cL_law 351 = .ok (.iload_n 3, 1) := by decide +kernel
theorem dL_law_352 : decode cL_law 352 = .ok (.iconst 1, 1) := by decide +kernel
theorem dL_law_353 : decode cL_law 353 = .ok (.iadd, 1) := by decide +kernel
theorem dL_law_354 : decode cL_law 354 = .ok (.iaload, 1) := by decide +kernel
theorem dL_law_355 : decode cL_law 355 = .ok (.invokevirtual 35, 3) := by decide +kernel
theorem dL_law_358 : decode cL_law 358 = .ok (.if_icmp .eq 989, 3) := by decide +kernel
theorem dL_law_361 : decode cL_law 361 = .ok (.iconst 0, 1) := by decide +kernel
theorem dL_law_362 : decode cL_law 362 = .ok (.ireturn, 1) := by decide +kernel
theorem dL_law_363 : decode cL_law 363 = .ok (.aload_n 1, 1) := by decide +kernel
theorem dL_law_364 : decode cL_law 364 = .ok (.aload_n 0, 1) := by decide +kernel
theorem dL_law_365 : decode cL_law 365 = .ok (.iload_n 3, 1) := by decide +kernel
theorem dL_law_366 : decode cL_law 366 = .ok (.iconst 1, 1) := by decide +kernel
theorem dL_law_367 : decode cL_law 367 = .ok (.iadd, 1) := by decide +kernel
theorem dL_law_368 : decode cL_law 368 = .ok (.iaload, 1) := by decide +kernel
theorem dL_law_369 : decode cL_law 369 = .ok (.aload_n 0, 1) := by decide +kernel
theorem dL_law_370 : decode cL_law 370 = .ok (.iload_n 3, 1) := by decide +kernel
theorem dL_law_371 : decode cL_law 371 = .ok (.iconst 2, 1) := by decide +kernel
theorem dL_law_372 : decode cL_law 372 = .ok (.iadd, 1) := by decide +kernel
theorem dL_law_373 : decode cL_law 373 = .ok (.iaload, 1) := by decide +kernel
theorem dL_law_374 : decode cL_law 374 = .ok (.invokevirtual 36, 3) := by decide +kernel
theorem dL_law_377 : decode cL_law 377 = .ok (.aload_n 2, 1) := by decide +kernel
theorem dL_law_378 : decode cL_law 378 = .ok (.aload_n 0, 1) := by decide +kernel
theorem dL_law_379 : decode cL_law 379 = .ok (.iload_n 3, 1) := by decide +kernel
theorem dL_law_380 : decode cL_law 380 = .ok (.iconst 1, 1) := by decide +kernel
theorem dL_law_381 : decode cL_law 381 = .ok (.iadd, 1) := by decide +kernel
theorem dL_law_382 : decode cL_law 382 = .ok (.iaload, 1) := by decide +kernel
theorem dL_law_383 : decode cL_law 383 = .ok (.aload_n 0, 1) := by decide +kernel
theorem dL_law_384 : decode cL_law 384 = .ok (.iload_n 3, 1) := by decide +kernel
theorem dL_law_385 : decode cL_law 385 = .ok (.iconst 2, 1) := by decide +kernel
theorem dL_law_386 : decode cL_law 386 = .ok (.iadd, 1) := by decide +kernel
theorem dL_law_387 : decode cL_law 387 = .ok (.iaload, 1) := by decide +kernel
theorem dL_law_388 : decode cL_law 388 = .ok (.invokevirtual 39, 3) := by decide +kernel
theorem dL_law_391 : decode cL_law 391 = .ok (.if_icmp .eq 956, 3) := by decide +kernel
theorem dL_law_394 : decode cL_law 394 = .ok (.iconst 0, 1) := by decide +kernel
theorem dL_law_395 : decode cL_law 395 = .ok (.ireturn, 1) := by decide +kernel
theorem dL_law_396 : decode cL_law 396 = .ok (.aload_n 1, 1) := by decide +kernel
theorem dL_law_397 : decode cL_law 397 = .ok (.aload_n 0, 1) := by decide +kernel
theorem dL_law_398 : decode cL_law 398 = .ok (.iload_n 3, 1) := by decide +kernel
theorem dL_law_399 : decode cL_law 399 = .ok (.iconst 1, 1) := by decide +kernel
theorem dL_law_400 : decode cL_law 400 = .ok (.iadd, 1) := by decide +kernel
theorem dL_law_401 : decode cL_law 401 = .ok (.iaload, 1) := by decide +kernel
theorem dL_law_402 : decode cL_law 402 = .ok (.aload_n 0, 1) := by decide +kernel
theorem dL_law_403 : decode cL_law 403 = .ok (.iload_n 3, 1) := by decide +kernel
theorem dL_law_404 : decode cL_law 404 = .ok (.iconst 2, 1) := by decide +kernel
theorem dL_law_405 : decode cL_law 405 = .ok (.iadd, 1) := by decide +kernel
theorem dL_law_406 : decode cL_law 406 = .ok (.iaload, 1) := by decide +kernel
theorem dL_law_407 : decode cL_law 407 = .ok (.ifCond .eq 7, 3) := by decide +kernel
theorem dL_law_410 : decode cL_law 410 = .ok (.iconst 1, 1) := by decide +kernel
theorem dL_law_411 : decode cL_law 411 = .ok (.goto 4, 3) := by decide +kernel
theorem dL_law_414 : decode cL_law 414 = .ok (.iconst 0, 1) := by decide +kernel
theorem dL_law_415 : decode cL_law 415 = .ok (.invokevirtual 40, 3) := by decide +kernel
theorem dL_law_418 : decode cL_law 418 = .ok (.aload_n 2, 1) := by decide +kernel
theorem dL_law_419 : decode cL_law 419 = .ok (.aload_n 0, 1) := by decide +kernel
theorem dL_law_420 : decode cL_law 420 = .ok (.iload_n 3, 1) := by decide +kernel
theorem dL_law_421 : decode cL_law 421 = .ok (.iconst 1, 1) := by decide +kernel
theorem dL_law_422 : decode cL_law 422 = .ok (.iadd, 1) := by decide +kernel
theorem dL_law_423 : decode cL_law 423 = .ok (.iaload, 1) := by decide +kernel
theorem dL_law_424 : decode cL_law 424 = .ok (.aload_n 0, 1) := by decide +kernel
theorem dL_law_425 : decode cL_law 425 = .ok (.iload_n 3, 1) := by decide +kernel
theorem dL_law_426 : decode cL_law 426 = .ok (.iconst 2, 1) := by decide +kernel
theorem dL_law_427 : decode cL_law 427 = .ok (.iadd, 1) := by decide +kernel
theorem dL_law_428 : decode cL_law 428 = .ok (.iaload, 1) := by decide +kernel
theorem dL_law_429 : decode cL_law 429 = .ok (.ifCond .eq 7, 3) := by decide +kernel
theorem dL_law_432 : decode cL_law 432 = .ok (.iconst 1, 1) := by decide +kernel
theorem dL_law_433 : decode cL_law 433 = .ok (.goto 4, 3) := by decide +kernel
theorem dL_law_436 : decode cL_law 436 = .ok (.iconst 0, 1) := by decide +kernel
theorem dL_law_437 : decode cL_law 437 = .ok (.invokevirtual 44, 3) := by decide +kernel
theorem dL_law_440 : decode cL_law 440 = .ok (.if_icmp .eq 907, 3) := by decide +kernel
theorem dL_law_443 : decode cL_law 443 = .ok (.iconst 0, 1) := by decide +kernel
theorem dL_law_444 : decode cL_law 444 = .ok (.ireturn, 1) := by decide +kernel
theorem dL_law_445 : decode cL_law 445 = .ok (.aload_n 1, 1) := by decide +kernel
theorem dL_law_446 : decode cL_law 446 = .ok (.aload_n 0, 1) := by decide +kernel
theorem dL_law_447 : decode cL_law 447 = .ok (.iload_n 3, 1) := by decide +kernel
theorem dL_law_448 : decode cL_law 448 = .ok (.iconst 1, 1) := by decide +kernel
theorem dL_law_449 : decode cL_law 449 = .ok (.iadd, 1) := by decide +kernel
theorem dL_law_450 : decode cL_law 450 = .ok (.iaload, 1) := by decide +kernel
theorem dL_law_451 : decode cL_law 451 = .ok (.aload_n 0, 1) := by decide +kernel
theorem dL_law_452 : decode cL_law 452 = .ok (.iload_n 3, 1) := by decide +kernel
theorem dL_law_453 : decode cL_law 453 = .ok (.iconst 2, 1) := by decide +kernel
theorem dL_law_454 : decode cL_law 454 = .ok (.iadd, 1) := by decide +kernel
theorem dL_law_455 : decode cL_law 455 = .ok (.iaload, 1) := by decide +kernel
theorem dL_law_456 : decode cL_law 456 = .ok (.invokevirtual 45, 3) := by decide +kernel
theorem dL_law_459 : decode cL_law 459 = .ok (.aload_n 2, 1) := by decide +kernel
theorem dL_law_460 : decode cL_law 460 = .ok (.aload_n 0, 1) := by decide +kernel
theorem dL_law_461 : decode cL_law 461 = .ok (.iload_n 3, 1) := by decide +kernel
theorem dL_law_462 : decode cL_law 462 = .ok (.iconst 1, 1) := by decide +kernel
theorem dL_law_463 : decode cL_law 463 = .ok (.iadd, 1) := by decide +kernel
theorem dL_law_464 : decode cL_law 464 = .ok (.iaload, 1) := by decide +kernel
theorem dL_law_465 : decode cL_law 465 = .ok (.aload_n 0, 1) := by decide +kernel
theorem dL_law_466 : decode cL_law 466 = .ok (.iload_n 3, 1) := by decide +kernel
theorem dL_law_467 : decode cL_law 467 = .ok (.iconst 2, 1) := by decide +kernel
theorem dL_law_468 : decode cL_law 468 = .ok (.iadd, 1) := by decide +kernel
theorem dL_law_469 : decode cL_law 469 = .ok (.iaload, 1) := by decide +kernel
theorem dL_law_470 : decode cL_law 470 = .ok (.invokevirtual 48, 3) := by decide +kernel
theorem dL_law_473 : decode cL_law 473 = .ok (.if_icmp .eq 874, 3) := by decide +kernel
theorem dL_law_476 : decode cL_law 476 = .ok (.iconst 0, 1) := by decide +kernel
theorem dL_law_477 : decode cL_law 477 = .ok (.ireturn, 1) := by decide +kernel
theorem dL_law_478 : decode cL_law 478 = .ok (.aload_n 1, 1) := by decide +kernel
theorem dL_law_479 : decode cL_law 479 = .ok (.aload_n 0, 1) := by decide +kernel
theorem dL_law_480 : decode cL_law 480 = .ok (.iload_n 3, 1) := by decide +kernel
theorem dL_law_481 : decode cL_law 481 = .ok (.iconst 1, 1) := by decide +kernel
theorem dL_law_482 : decode cL_law 482 = .ok (.iadd, 1) := by decide +kernel
theorem dL_law_483 : decode cL_law 483 = .ok (.iaload, 1) := by decide +kernel
theorem dL_law_484 : decode cL_law 484 = .ok (.aload_n 0, 1) := by decide +kernel
theorem dL_law_485 : decode cL_law 485 = .ok (.iload_n 3, 1) := by decide +kernel
theorem dL_law_486 : decode cL_law 486 = .ok (.iconst 2, 1) := by decide +kernel
theorem dL_law_487 : decode cL_law 487 = .ok (.iadd, 1) := by decide +kernel
theorem dL_law_488 : decode cL_law 488 = .ok (.iaload, 1) := by decide +kernel
theorem dL_law_489 : decode cL_law 489 = .ok (.ifCond .eq 7, 3) := by decide +kernel
theorem dL_law_492 : decode cL_law 492 = .ok (.iconst 1, 1) := by decide +kernel
theorem dL_law_493 : decode cL_law 493 = .ok (.goto 4, 3) := by decide +kernel
theorem dL_law_496 : decode cL_law 496 = .ok (.iconst 0, 1) := by decide +kernel
theorem dL_law_497 : decode cL_law 497 = .ok (.aload_n 0, 1) := by decide +kernel
theorem dL_law_498 : decode cL_law 498 = .ok (.iload_n 3, 1) := by decide +kernel
theorem dL_law_499 : decode cL_law 499 = .ok (.iconst 3, 1) := by decide +kernel
theorem dL_law_500 : decode cL_law 500 = .ok (.iadd, 1) := by decide +kernel
theorem dL_law_501 : decode cL_law 501 = .ok (.iaload, 1) := by decide +kernel
theorem dL_law_502 : decode cL_law 502 = .ok (.invokevirtual 49, 3) := by decide +kernel
theorem dL_law_505 : decode cL_law 505 = .ok (.aload_n 2, 1) := by decide +kernel
theorem dL_law_506 : decode cL_law 506 = .ok (.aload_n 0, 1) := by decide +kernel
theorem dL_law_507 : decode cL_law 507 = .ok (.iload_n 3, 1) := by decide +kernel
theorem dL_law_508 : decode cL_law 508 = .ok (.iconst 1, 1) := by decide +kernel
theorem dL_law_509 : decode cL_law 509 = .ok (.iadd, 1) := by decide +kernel
theorem dL_law_510 : decode cL_law 510 = .ok (.iaload, 1) := by decide +kernel
theorem dL_law_511 : decode cL_law 511 = .ok (.aload_n 0, 1) := by decide +kernel
theorem dL_law_512 : decode cL_law 512 = .ok (.iload_n 3, 1) := by decide +kernel
theorem dL_law_513 : decode cL_law 513 = .ok (.iconst 2, 1) := by decide +kernel
theorem dL_law_514 : decode cL_law 514 = .ok (.iadd, 1) := by decide +kernel
theorem dL_law_515 : decode cL_law 515 = .ok (.iaload, 1) := by decide +kernel
theorem dL_law_516 : decode cL_law 516 = .ok (.ifCond .eq 7, 3) := by decide +kernel
theorem dL_law_519 : decode cL_law 519 = .ok (.iconst 1, 1) := by decide +kernel
theorem dL_law_520 : decode cL_law 520 = .ok (.goto 4, 3) := by decide +kernel
theorem dL_law_523 : decode cL_law 523 = .ok (.iconst 0, 1) := by decide +kernel
theorem dL_law_524 : decode cL_law 524 = .ok (.aload_n 0, 1) := by decide +kernel
theorem dL_law_525 : decode cL_law 525 = .ok (.iload_n 3, 1) := by decide +kernel
theorem dL_law_526 : decode cL_law 526 = .ok (.iconst 3, 1) := by decide +kernel
theorem dL_law_527 : decode cL_law 527 = .ok (.iadd, 1) := by decide +kernel
theorem dL_law_528 : decode cL_law 528 = .ok (.iaload, 1) := by decide +kernel
theorem dL_law_529 : decode cL_law 529 = .ok (.invokevirtual 53, 3) := by decide +kernel
theorem dL_law_532 : decode cL_law 532 = .ok (.if_icmp .eq 815, 3) := by decide +kernel
theorem dL_law_535 : decode cL_law 535 = .ok (.iconst 0, 1) := by decide +kernel
theorem dL_law_536 : decode cL_law 536 = .ok (.ireturn, 1) := by decide +kernel
theorem dL_law_537 : decode cL_law 537 = .ok (.aload_n 1, 1) := by decide +kernel
theorem dL_law_538 : decode cL_law 538 = .ok (.aload_n 0, 1) := by decide +kernel
theorem dL_law_539 : decode cL_law 539 = .ok (.iload_n 3, 1) := by decide +kernel
theorem dL_law_540 : decode cL_law 540 = .ok (.iconst 1, 1) := by decide +kernel
theorem dL_law_541 : decode cL_law 541 = .ok (.iadd, 1) := by decide +kernel
theorem dL_law_542 : decode cL_law 542 = .ok (.iaload, 1) := by decide +kernel
theorem dL_law_543 : decode cL_law 543 = .ok (.aload_n 0, 1) := by decide +kernel
theorem dL_law_544 : decode cL_law 544 = .ok (.iload_n 3, 1) := by decide +kernel
theorem dL_law_545 : decode cL_law 545 = .ok (.iconst 2, 1) := by decide +kernel
theorem dL_law_546 : decode cL_law 546 = .ok (.iadd, 1) := by decide +kernel
theorem dL_law_547 : decode cL_law 547 = .ok (.iaload, 1) := by decide +kernel
theorem dL_law_548 : decode cL_law 548 = .ok (.invokevirtual 54, 3) := by decide +kernel
theorem dL_law_551 : decode cL_law 551 = .ok (.aload_n 2, 1) := by decide +kernel
theorem dL_law_552 : decode cL_law 552 = .ok (.aload_n 0, 1) := by decide +kernel
theorem dL_law_553 : decode cL_law 553 = .ok (.iload_n 3, 1) := by decide +kernel
theorem dL_law_554 : decode cL_law 554 = .ok (.iconst 1, 1) := by decide +kernel
theorem dL_law_555 : decode cL_law 555 = .ok (.iadd, 1) := by decide +kernel
theorem dL_law_556 : decode cL_law 556 = .ok (.iaload, 1) := by decide +kernel
theorem dL_law_557 : decode cL_law 557 = .ok (.aload_n 0, 1) := by decide +kernel
theorem dL_law_558 : decode cL_law 558 = .ok (.iload_n 3, 1) := by decide +kernel
theorem dL_law_559 : decode cL_law 559 = .ok (.iconst 2, 1) := by decide +kernel
theorem dL_law_560 : decode cL_law 560 = .ok (.iadd, 1) := by decide +kernel
theorem dL_law_561 : decode cL_law 561 = .ok (.iaload, 1) := by decide +kernel
theorem dL_law_562 : decode cL_law 562 = .ok (.invokevirtual 57, 3) := by decide +kernel
theorem dL_law_565 : decode cL_law 565 = .ok (.if_icmp .eq 782, 3) := by decide +kernel
theorem dL_law_568 : decode cL_law 568 = .ok (.iconst 0, 1) := by decide +kernel
theorem dL_law_569 : decode cL_law 569 = .ok (.ireturn, 1) := by decide +kernel
theorem dL_law_570 : decode cL_law 570 = .ok (.aload_n 1, 1) := by decide +kernel
theorem dL_law_571 : decode cL_law 571 = .ok (.aload_n 0, 1) := by decide +kernel
theorem dL_law_572 : decode cL_law 572 = .ok (.iload_n 3, 1) := by decide +kernel
theorem dL_law_573 : decode cL_law 573 = .ok (.iconst 1, 1) := by decide +kernel
theorem dL_law_574 : decode cL_law 574 = .ok (.iadd, 1) := by decide +kernel
theorem dL_law_575 : decode cL_law 575 = .ok (.iaload, 1) := by decide +kernel
theorem dL_law_576 : decode cL_law 576 = .ok (.aload_n 0, 1) := by decide +kernel
theorem dL_law_577 : decode cL_law 577 = .ok (.iload_n 3, 1) := by decide +kernel
theorem dL_law_578 : decode cL_law 578 = .ok (.iconst 2, 1) := by decide +kernel
theorem dL_law_579 : decode cL_law 579 = .ok (.iadd, 1) := by decide +kernel
theorem dL_law_580 : decode cL_law 580 = .ok (.iaload, 1) := by decide +kernel
theorem dL_law_581 : decode cL_law 581 = .ok (.invokevirtual 58, 3) := by decide +kernel
theorem dL_law_584 : decode cL_law 584 = .ok (.aload_n 2, 1) := by decide +kernel
theorem dL_law_585 : decode cL_law 585 = .ok (.aload_n 0, 1) := by decide +kernel
theorem dL_law_586 : decode cL_law 586 = .ok (.iload_n 3, 1) := by decide +kernel
theorem dL_law_587 : decode cL_law 587 = .ok (.iconst 1, 1) := by decide +kernel
theorem dL_law_588 : decode cL_law 588 = .ok (.iadd, 1) := by decide +kernel
theorem dL_law_589 : decode cL_law 589 = .ok (.iaload, 1) := by decide +kernel
theorem dL_law_590 : decode cL_law 590 = .ok (.aload_n 0, 1) := by decide +kernel
theorem dL_law_591 : decode cL_law 591 = .ok (.iload_n 3, 1) := by decide +kernel
theorem dL_law_592 : decode cL_law 592 = .ok (.iconst 2, 1) := by decide +kernel
theorem dL_law_593 : decode cL_law 593 = .ok (.iadd, 1) := by decide +kernel
theorem dL_law_594 : decode cL_law 594 = .ok (.iaload, 1) := by decide +kernel
theorem dL_law_595 : decode cL_law 595 = .ok (.invokevirtual 61, 3) := by decide +kernel
theorem dL_law_598 : decode cL_law 598 = .ok (.if_icmp .eq 749, 3) := by decide +kernel
theorem dL_law_601 : decode cL_law 601 = .ok (.iconst 0, 1) := by decide +kernel
theorem dL_law_602 : decode cL_law 602 = .ok (.ireturn, 1) := by decide +kernel
theorem dL_law_603 : decode cL_law 603 = .ok (.aload_n 1, 1) := by decide +kernel
theorem dL_law_604 : decode cL_law 604 = .ok (.aload_n 0, 1) := by decide +kernel
theorem dL_law_605 : decode cL_law 605 = .ok (.iload_n 3, 1) := by decide +kernel
theorem dL_law_606 : decode cL_law 606 = .ok (.iconst 1, 1) := by decide +kernel
theorem dL_law_607 : decode cL_law 607 = .ok (.iadd, 1) := by decide +kernel
theorem dL_law_608 : decode cL_law 608 = .ok (.iaload, 1) := by decide +kernel
theorem dL_law_609 : decode cL_law 609 = .ok (.aload_n 0, 1) := by decide +kernel
theorem dL_law_610 : decode cL_law 610 = .ok (.iload_n 3, 1) := by decide +kernel
theorem dL_law_611 : decode cL_law 611 = .ok (.iconst 2, 1) := by decide +kernel
theorem dL_law_612 : decode cL_law 612 = .ok (.iadd, 1) := by decide +kernel
theorem dL_law_613 : decode cL_law 613 = .ok (.iaload, 1) := by decide +kernel
theorem dL_law_614 : decode cL_law 614 = .ok (.invokevirtual 62, 3) := by decide +kernel
theorem dL_law_617 : decode cL_law 617 = .ok (.aload_n 2, 1) := by decide +kernel
theorem dL_law_618 : decode cL_law 618 = .ok (.aload_n 0, 1) := by decide +kernel
theorem dL_law_619 : decode cL_law 619 = .ok (.iload_n 3, 1) := by decide +kernel
theorem dL_law_620 : decode cL_law 620 = .ok (.iconst 1, 1) := by decide +kernel
theorem dL_law_621 : decode cL_law 621 = .ok (.iadd, 1) := by decide +kernel
theorem dL_law_622 : decode cL_law 622 = .ok (.iaload, 1) := by decide +kernel
theorem dL_law_623 : decode cL_law 623 = .ok (.aload_n 0, 1) := by decide +kernel
theorem dL_law_624 : decode cL_law 624 = .ok (.iload_n 3, 1) := by decide +kernel
theorem dL_law_625 : decode cL_law 625 = .ok (.iconst 2, 1) := by decide +kernel
theorem dL_law_626 : decode cL_law 626 = .ok (.iadd, 1) := by decide +kernel
theorem dL_law_627 : decode cL_law 627 = .ok (.iaload, 1) := by decide +kernel
theorem dL_law_628 : decode cL_law 628 = .ok (.invokevirtual 65, 3) := by decide +kernel
theorem dL_law_631 : decode cL_law 631 = .ok (.if_icmp .eq 716, 3) := by decide +kernel
theorem dL_law_634 : decode cL_law 634 = .ok (.iconst 0, 1) := by decide +kernel
theorem dL_law_635 : decode cL_law 635 = .ok (.ireturn, 1) := by decide +kernel
theorem dL_law_636 : decode cL_law 636 = .ok (.aload_n 1, 1) := by decide +kernel
theorem dL_law_637 : decode cL_law 637 = .ok (.aload_n 0, 1) := by decide +kernel
theorem dL_law_638 : decode cL_law 638 = .ok (.iload_n 3, 1) := by decide +kernel
theorem dL_law_639 : decode cL_law 639 = .ok (.iconst 1, 1) := by decide +kernel
theorem dL_law_640 : decode cL_law 640 = .ok (.iadd, 1) := by decide +kernel
theorem dL_law_641 : decode cL_law 641 = .ok (.iaload, 1) := by decide +kernel
theorem dL_law_642 : decode cL_law 642 = .ok (.aload_n 0, 1) := by decide +kernel
theorem dL_law_643 : decode cL_law 643 = .ok (.iload_n 3, 1) := by decide +kernel
theorem dL_law_644 : decode cL_law 644 = .ok (.iconst 2, 1) := by decide +kernel
theorem dL_law_645 : decode cL_law 645 = .ok (.iadd, 1) := by decide +kernel
theorem dL_law_646 : decode cL_law 646 = .ok (.iaload, 1) := by decide +kernel
theorem dL_law_647 : decode cL_law 647 = .ok (.aload_n 0, 1) := by decide +kernel
theorem dL_law_648 : decode cL_law 648 = .ok (.iload_n 3, 1) := by decide +kernel
theorem dL_law_649 : decode cL_law 649 = .ok (.iconst 3, 1) := by decide +kernel
theorem dL_law_650 : decode cL_law 650 = .ok (.iadd, 1) := by decide +kernel
theorem dL_law_651 : decode cL_law 651 = .ok (.iaload, 1) := by decide +kernel
theorem dL_law_652 : decode cL_law 652 = .ok (.aload_n 0, 1) := by decide +kernel
theorem dL_law_653 : decode cL_law 653 = .ok (.iload_n 3, 1) := by decide +kernel
theorem dL_law_654 : decode cL_law 654 = .ok (.iconst 4, 1) := by decide +kernel
theorem dL_law_655 : decode cL_law 655 = .ok (.iadd, 1) := by decide +kernel
theorem dL_law_656 : decode cL_law 656 = .ok (.iaload, 1) := by decide +kernel
theorem dL_law_657 : decode cL_law 657 = .ok (.aload_n 0, 1) := by decide +kernel
theorem dL_law_658 : decode cL_law 658 = .ok (.iload_n 3, 1) := by decide +kernel
theorem dL_law_659 : decode cL_law 659 = .ok (.iconst 5, 1) := by decide +kernel
theorem dL_law_660 : decode cL_law 660 = .ok (.iadd, 1) := by decide +kernel
theorem dL_law_661 : decode cL_law 661 = .ok (.iaload, 1) := by decide +kernel
theorem dL_law_662 : decode cL_law 662 = .ok (.invokevirtual 66, 3) := by decide +kernel
theorem dL_law_665 : decode cL_law 665 = .ok (.aload_n 2, 1) := by decide +kernel
theorem dL_law_666 : decode cL_law 666 = .ok (.aload_n 0, 1) := by decide +kernel
theorem dL_law_667 : decode cL_law 667 = .ok (.iload_n 3, 1) := by decide +kernel
theorem dL_law_668 : decode cL_law 668 = .ok (.iconst 1, 1) := by decide +kernel
theorem dL_law_669 : decode cL_law 669 = .ok (.iadd, 1) := by decide +kernel
theorem dL_law_670 : decode cL_law 670 = .ok (.iaload, 1) := by decide +kernel
theorem dL_law_671 : decode cL_law 671 = .ok (.aload_n 0, 1) := by decide +kernel
theorem dL_law_672 : decode cL_law 672 = .ok (.iload_n 3, 1) := by decide +kernel
theorem dL_law_673 : decode cL_law 673 = .ok (.iconst 2, 1) := by decide +kernel
theorem dL_law_674 : decode cL_law 674 = .ok (.iadd, 1) := by decide +kernel
theorem dL_law_675 : decode cL_law 675 = .ok (.iaload, 1) := by decide +kernel
theorem dL_law_676 : decode cL_law 676 = .ok (.aload_n 0, 1) := by decide +kernel
theorem dL_law_677 : decode cL_law 677 = .ok (.iload_n 3, 1) := by decide +kernel
theorem dL_law_678 : decode cL_law 678 = .ok (.iconst 3, 1) := by decide +kernel
theorem dL_law_679 : decode cL_law 679 = .ok (.iadd, 1) := by decide +kernel
theorem dL_law_680 : decode cL_law 680 = .ok (.iaload, 1) := by decide +kernel
theorem dL_law_681 : decode cL_law 681 = .ok (.aload_n 0, 1) := by decide +kernel
theorem dL_law_682 : decode cL_law 682 = .ok (.iload_n 3, 1) := by decide +kernel
theorem dL_law_683 : decode cL_law 683 = .ok (.iconst 4, 1) := by decide +kernel
theorem dL_law_684 : decode cL_law 684 = .ok (.iadd, 1) := by decide +kernel
theorem dL_law_685 : decode cL_law 685 = .ok (.iaload, 1) := by decide +kernel
theorem dL_law_686 : decode cL_law 686 = .ok (.aload_n 0, 1) := by decide +kernel
theorem dL_law_687 : decode cL_law 687 = .ok (.iload_n 3, 1) := by decide +kernel
theorem dL_law_688 : decode cL_law 688 = .ok (.iconst 5, 1) := by decide +kernel
theorem dL_law_689 : decode cL_law 689 = .ok (.iadd, 1) := by decide +kernel
theorem dL_law_690 : decode cL_law 690 = .ok (.iaload, 1) := by decide +kernel
theorem dL_law_691 : decode cL_law 691 = .ok (.invokevirtual 70, 3) := by decide +kernel
theorem dL_law_694 : decode cL_law 694 = .ok (.if_icmp .eq 653, 3) := by decide +kernel
theorem dL_law_697 : decode cL_law 697 = .ok (.iconst 0, 1) := by decide +kernel
theorem dL_law_698 : decode cL_law 698 = .ok (.ireturn, 1) := by decide +kernel
theorem dL_law_699 : decode cL_law 699 = .ok (.aload_n 1, 1) := by decide +kernel
theorem dL_law_700 : decode cL_law 700 = .ok (.aload_n 0, 1) := by decide +kernel
theorem dL_law_701 : decode cL_law 701 = .ok (.iload_n 3, 1) := by decide +kernel
theorem dL_law_702 : decode cL_law 702 = .ok (.iconst 1, 1) := by decide +kernel
theorem dL_law_703 : decode cL_law 703 = .ok (.iadd, 1) := by decide +kernel
theorem dL_law_704 : decode cL_law 704 = .ok (.iaload, 1) := by decide +kernel
theorem dL_law_705 : decode cL_law 705 = .ok (.invokevirtual 71, 3) := by decide +kernel
theorem dL_law_708 : decode cL_law 708 = .ok (.aload_n 2, 1) := by decide +kernel
theorem dL_law_709 : decode cL_law 709 = .ok (.aload_n 0, 1) := by decide +kernel
theorem dL_law_710 : decode cL_law 710 = .ok (.iload_n 3, 1) := by decide +kernel
theorem dL_law_711 : decode cL_law 711 = .ok (.iconst 1, 1) := by decide +kernel
theorem dL_law_712 : decode cL_law 712 = .ok (.iadd, 1) := by decide +kernel
theorem dL_law_713 : decode cL_law 713 = .ok (.iaload, 1) := by decide +kernel
theorem dL_law_714 : decode cL_law 714 = .ok (.invokevirtual 74, 3) := by decide +kernel
theorem dL_law_717 : decode cL_law 717 = .ok (.if_icmp .eq 630, 3) := by decide +kernel
theorem dL_law_720 : decode cL_law 720 = .ok (.iconst 0, 1) := by decide +kernel
theorem dL_law_721 : decode cL_law 721 = .ok (.ireturn, 1) := by decide +kernel
theorem dL_law_722 : decode cL_law 722 = .ok (.aload_n 1, 1) := by decide +kernel
theorem dL_law_723 : decode cL_law 723 = .ok (.aload_n 0, 1) := by decide +kernel
theorem dL_law_724 : decode cL_law 724 = .ok (.iload_n 3, 1) := by decide +kernel
theorem dL_law_725 : decode cL_law 725 = .ok (.iconst 1, 1) := by decide +kernel
theorem dL_law_726 : decode cL_law 726 = .ok (.iadd, 1) := by decide +kernel
theorem dL_law_727 : decode cL_law 727 = .ok (.iaload, 1) := by decide +kernel
theorem dL_law_728 : decode cL_law 728 = .ok (.aload_n 0, 1) := by decide +kernel
theorem dL_law_729 : decode cL_law 729 = .ok (.iload_n 3, 1) := by decide +kernel
theorem dL_law_730 : decode cL_law 730 = .ok (.iconst 2, 1) := by decide +kernel
theorem dL_law_731 : decode cL_law 731 = .ok (.iadd, 1) := by decide +kernel
theorem dL_law_732 : decode cL_law 732 = .ok (.iaload, 1) := by decide +kernel
theorem dL_law_733 : decode cL_law 733 = .ok (.invokevirtual 75, 3) := by decide +kernel
theorem dL_law_736 : decode cL_law 736 = .ok (.aload_n 2, 1) := by decide +kernel
theorem dL_law_737 : decode cL_law 737 = .ok (.aload_n 0, 1) := by decide +kernel
theorem dL_law_738 : decode cL_law 738 = .ok (.iload_n 3, 1) := by decide +kernel
theorem dL_law_739 : decode cL_law 739 = .ok (.iconst 1, 1) := by decide +kernel
theorem dL_law_740 : decode cL_law 740 = .ok (.iadd, 1) := by decide +kernel
theorem dL_law_741 : decode cL_law 741 = .ok (.iaload, 1) := by decide +kernel
theorem dL_law_742 : decode cL_law 742 = .ok (.aload_n 0, 1) := by decide +kernel
theorem dL_law_743 : decode cL_law 743 = .ok (.iload_n 3, 1) := by decide +kernel
theorem dL_law_744 : decode cL_law 744 = .ok (.iconst 2, 1) := by decide +kernel
theorem dL_law_745 : decode cL_law 745 = .ok (.iadd, 1) := by decide +kernel
theorem dL_law_746 : decode cL_law 746 = .ok (.iaload, 1) := by decide +kernel
theorem dL_law_747 : decode cL_law 747 = .ok (.invokevirtual 78, 3) := by decide +kernel
theorem dL_law_750 : decode cL_law 750 = .ok (.if_icmp .eq 597, 3) := by decide +kernel
theorem dL_law_753 : decode cL_law 753 = .ok (.iconst 0, 1) := by decide +kernel
theorem dL_law_754 : decode cL_law 754 = .ok (.ireturn, 1) := by decide +kernel
theorem dL_law_755 : decode cL_law 755 = .ok (.aload_n 1, 1) := by decide +kernel
theorem dL_law_756 : decode cL_law 756 = .ok (.aload_n 0, 1) := by decide +kernel
theorem dL_law_757 : decode cL_law 757 = .ok (.iload_n 3, 1) := by decide +kernel
theorem dL_law_758 : decode cL_law 758 = .ok (.iconst 1, 1) := by decide +kernel
theorem dL_law_759 : decode cL_law 759 = .ok (.iadd, 1) := by decide +kernel
theorem dL_law_760 : decode cL_law 760 = .ok (.iaload, 1) := by decide +kernel
theorem dL_law_761 : decode cL_law 761 = .ok (.aload_n 0, 1) := by decide +kernel
theorem dL_law_762 : decode cL_law 762 = .ok (.iload_n 3, 1) := by decide +kernel
theorem dL_law_763 : decode cL_law 763 = .ok (.iconst 2, 1) := by decide +kernel
theorem dL_law_764 : decode cL_law 764 = .ok (.iadd, 1) := by decide +kernel
theorem dL_law_765 : decode cL_law 765 = .ok (.iaload, 1) := by decide +kernel
theorem dL_law_766 : decode cL_law 766 = .ok (.invokevirtual 79, 3) := by decide +kernel
theorem dL_law_769 : decode cL_law 769 = .ok (.aload_n 2, 1) := by decide +kernel
theorem dL_law_770 : decode cL_law 770 = .ok (.aload_n 0, 1) := by decide +kernel
theorem dL_law_771 : decode cL_law 771 = .ok (.iload_n 3, 1) := by decide +kernel
theorem dL_law_772 : decode cL_law 772 = .ok (.iconst 1, 1) := by decide +kernel
theorem dL_law_773 : decode cL_law 773 = .ok (.iadd, 1) := by decide +kernel
theorem dL_law_774 : decode cL_law 774 = .ok (.iaload, 1) := by decide +kernel
theorem dL_law_775 : decode cL_law 775 = .ok (.aload_n 0, 1) := by decide +kernel
theorem dL_law_776 : decode cL_law 776 = .ok (.iload_n 3, 1) := by decide +kernel
theorem dL_law_777 : decode cL_law 777 = .ok (.iconst 2, 1) := by decide +kernel
theorem dL_law_778 : decode cL_law 778 = .ok (.iadd, 1) := by decide +kernel
theorem dL_law_779 : decode cL_law 779 = .ok (.iaload, 1) := by decide +kernel
theorem dL_law_780 : decode cL_law 780 = .ok (.invokevirtual 82, 3) := by decide +kernel
theorem dL_law_783 : decode cL_law 783 = .ok (.if_icmp .eq 564, 3) := by decide +kernel
theorem dL_law_786 : decode cL_law 786 = .ok (.iconst 0, 1) := by decide +kernel
theorem dL_law_787 : decode cL_law 787 = .ok (.ireturn, 1) := by decide +kernel
theorem dL_law_788 : decode cL_law 788 = .ok (.aload_n 1, 1) := by decide +kernel
theorem dL_law_789 : decode cL_law 789 = .ok (.aload_n 0, 1) := by decide +kernel
theorem dL_law_790 : decode cL_law 790 = .ok (.iload_n 3, 1) := by decide +kernel
theorem dL_law_791 : decode cL_law 791 = .ok (.iconst 1, 1) := by decide +kernel
theorem dL_law_792 : decode cL_law 792 = .ok (.iadd, 1) := by decide +kernel
theorem dL_law_793 : decode cL_law 793 = .ok (.iaload, 1) := by decide +kernel
theorem dL_law_794 : decode cL_law 794 = .ok (.invokevirtual 83, 3) := by decide +kernel
theorem dL_law_797 : decode cL_law 797 = .ok (.aload_n 2, 1) := by decide +kernel
theorem dL_law_798 : decode cL_law 798 = .ok (.aload_n 0, 1) := by decide +kernel
theorem dL_law_799 : decode cL_law 799 = .ok (.iload_n 3, 1) := by decide +kernel
theorem dL_law_800 : decode cL_law 800 = .ok (.iconst 1, 1) := by decide +kernel
theorem dL_law_801 : decode cL_law 801 = .ok (.iadd, 1) := by decide +kernel
theorem dL_law_802 : decode cL_law 802 = .ok (.iaload, 1) := by decide +kernel
theorem dL_law_803 : decode cL_law 803 = .ok (.invokevirtual 86, 3) := by decide +kernel
theorem dL_law_806 : decode cL_law 806 = .ok (.if_icmp .eq 541, 3) := by decide +kernel
theorem dL_law_809 : decode cL_law 809 = .ok (.iconst 0, 1) := by decide +kernel
theorem dL_law_810 : decode cL_law 810 = .ok (.ireturn, 1) := by decide +kernel
theorem dL_law_811 : decode cL_law 811 = .ok (.aload_n 1, 1) := by decide +kernel
theorem dL_law_812 : decode cL_law 812 = .ok (.aload_n 0, 1) := by decide +kernel
theorem dL_law_813 : decode cL_law 813 = .ok (.iload_n 3, 1) := by decide +kernel
theorem dL_law_814 : decode cL_law 814 = .ok (.iconst 1, 1) := by decide +kernel
theorem dL_law_815 : decode cL_law 815 = .ok (.iadd, 1) := by decide +kernel
theorem dL_law_816 : decode cL_law 816 = .ok (.iaload, 1) := by decide +kernel
theorem dL_law_817 : decode cL_law 817 = .ok (.aload_n 0, 1) := by decide +kernel
theorem dL_law_818 : decode cL_law 818 = .ok (.iload_n 3, 1) := by decide +kernel
theorem dL_law_819 : decode cL_law 819 = .ok (.iconst 2, 1) := by decide +kernel
theorem dL_law_820 : decode cL_law 820 = .ok (.iadd, 1) := by decide +kernel
theorem dL_law_821 : decode cL_law 821 = .ok (.iaload, 1) := by decide +kernel
theorem dL_law_822 : decode cL_law 822 = .ok (.aload_n 0, 1) := by decide +kernel
theorem dL_law_823 : decode cL_law 823 = .ok (.iload_n 3, 1) := by decide +kernel
theorem dL_law_824 : decode cL_law 824 = .ok (.iconst 3, 1) := by decide +kernel
theorem dL_law_825 : decode cL_law 825 = .ok (.iadd, 1) := by decide +kernel
theorem dL_law_826 : decode cL_law 826 = .ok (.iaload, 1) := by decide +kernel
theorem dL_law_827 : decode cL_law 827 = .ok (.invokevirtual 87, 3) := by decide +kernel
theorem dL_law_830 : decode cL_law 830 = .ok (.aload_n 2, 1) := by decide +kernel
theorem dL_law_831 : decode cL_law 831 = .ok (.aload_n 0, 1) := by decide +kernel
theorem dL_law_832 : decode cL_law 832 = .ok (.iload_n 3, 1) := by decide +kernel
theorem dL_law_833 : decode cL_law 833 = .ok (.iconst 1, 1) := by decide +kernel
theorem dL_law_834 : decode cL_law 834 = .ok (.iadd, 1) := by decide +kernel
theorem dL_law_835 : decode cL_law 835 = .ok (.iaload, 1) := by decide +kernel
theorem dL_law_836 : decode cL_law 836 = .ok (.aload_n 0, 1) := by decide +kernel
theorem dL_law_837 : decode cL_law 837 = .ok (.iload_n 3, 1) := by decide +kernel
theorem dL_law_838 : decode cL_law 838 = .ok (.iconst 2, 1) := by decide +kernel
theorem dL_law_839 : decode cL_law 839 = .ok (.iadd, 1) := by decide +kernel
theorem dL_law_840 : decode cL_law 840 = .ok (.iaload, 1) := by decide +kernel
theorem dL_law_841 : decode cL_law 841 = .ok (.aload_n 0, 1) := by decide +kernel
theorem dL_law_842 : decode cL_law 842 = .ok (.iload_n 3, 1) := by decide +kernel
theorem dL_law_843 : decode cL_law 843 = .ok (.iconst 3, 1) := by decide +kernel
theorem dL_law_844 : decode cL_law 844 = .ok (.iadd, 1) := by decide +kernel
theorem dL_law_845 : decode cL_law 845 = .ok (.iaload, 1) := by decide +kernel
theorem dL_law_846 : decode cL_law 846 = .ok (.invokevirtual 91, 3) := by decide +kernel
theorem dL_law_849 : decode cL_law 849 = .ok (.if_icmp .eq 498, 3) := by decide +kernel
theorem dL_law_852 : decode cL_law 852 = .ok (.iconst 0, 1) := by decide +kernel
theorem dL_law_853 : decode cL_law 853 = .ok (.ireturn, 1) := by decide +kernel
theorem dL_law_854 : decode cL_law 854 = .ok (.aload_n 1, 1) := by decide +kernel
theorem dL_law_855 : decode cL_law 855 = .ok (.aload_n 0, 1) := by decide +kernel
theorem dL_law_856 : decode cL_law 856 = .ok (.iload_n 3, 1) := by decide +kernel
theorem dL_law_857 : decode cL_law 857 = .ok (.iconst 1, 1) := by decide +kernel
theorem dL_law_858 : decode cL_law 858 = .ok (.iadd, 1) := by decide +kernel
theorem dL_law_859 : decode cL_law 859 = .ok (.iaload, 1) := by decide +kernel
theorem dL_law_860 : decode cL_law 860 = .ok (.invokevirtual 92, 3) := by decide +kernel
theorem dL_law_863 : decode cL_law 863 = .ok (.aload_n 2, 1) := by decide +kernel
theorem dL_law_864 : decode cL_law 864 = .ok (.aload_n 0, 1) := by decide +kernel
theorem dL_law_865 : decode cL_law 865 = .ok (.iload_n 3, 1) := by decide +kernel
theorem dL_law_866 : decode cL_law 866 = .ok (.iconst 1, 1) := by decide +kernel
theorem dL_law_867 : decode cL_law 867 = .ok (.iadd, 1) := by decide +kernel
theorem dL_law_868 : decode cL_law 868 = .ok (.iaload, 1) := by decide +kernel
theorem dL_law_869 : decode cL_law 869 = .ok (.invokevirtual 95, 3) := by decide +kernel
theorem dL_law_872 : decode cL_law 872 = .ok (.if_icmp .eq 475, 3) := by decide +kernel
theorem dL_law_875 : decode cL_law 875 = .ok (.iconst 0, 1) := by decide +kernel
theorem dL_law_876 : decode cL_law 876 = .ok (.ireturn, 1) := by decide +kernel
theorem dL_law_877 : decode cL_law 877 = .ok (.aload_n 1, 1) := by decide +kernel
theorem dL_law_878 : decode cL_law 878 = .ok (.invokevirtual 96, 3) := by decide +kernel
theorem dL_law_881 : decode cL_law 881 = .ok (.aload_n 2, 1) := by decide +kernel
theorem dL_law_882 : decode cL_law 882 = .ok (.invokevirtual 100, 3) := by decide +kernel
theorem dL_law_885 : decode cL_law 885 = .ok (.if_icmp .eq 462, 3) := by decide +kernel
theorem dL_law_888 : decode cL_law 888 = .ok (.iconst 0, 1) := by decide +kernel
theorem dL_law_889 : decode cL_law 889 = .ok (.ireturn, 1) := by decide +kernel
theorem dL_law_890 : decode cL_law 890 = .ok (.aload_n 1, 1) := by decide +kernel
theorem dL_law_891 : decode cL_law 891 = .ok (.aload_n 0, 1) := by decide +kernel
theorem dL_law_892 : decode cL_law 892 = .ok (.iload_n 3, 1) := by decide +kernel
theorem dL_law_893 : decode cL_law 893 = .ok (.iconst 1, 1) := by decide +kernel
theorem dL_law_894 : decode cL_law 894 = .ok (.iadd, 1) := by decide +kernel
theorem dL_law_895 : decode cL_law 895 = .ok (.iaload, 1) := by decide +kernel
theorem dL_law_896 : decode cL_law 896 = .ok (.invokevirtual 101, 3) := by decide +kernel
theorem dL_law_899 : decode cL_law 899 = .ok (.aload_n 2, 1) := by decide +kernel
theorem dL_law_900 : decode cL_law 900 = .ok (.aload_n 0, 1) := by decide +kernel
theorem dL_law_901 : decode cL_law 901 = .ok (.iload_n 3, 1) := by decide +kernel
theorem dL_law_902 : decode cL_law 902 = .ok (.iconst 1, 1) := by decide +kernel
theorem dL_law_903 : decode cL_law 903 = .ok (.iadd, 1) := by decide +kernel
theorem dL_law_904 : decode cL_law 904 = .ok (.iaload, 1) := by decide +kernel
theorem dL_law_905 : decode cL_law 905 = .ok (.invokevirtual 104, 3) := by decide +kernel
theorem dL_law_908 : decode cL_law 908 = .ok (.if_icmp .eq 439, 3) := by decide +kernel
theorem dL_law_911 : decode cL_law 911 = .ok (.iconst 0, 1) := by decide +kernel
theorem dL_law_912 : decode cL_law 912 = .ok (.ireturn, 1) := by decide +kernel
theorem dL_law_913 : decode cL_law 913 = .ok (.aload_n 1, 1) := by decide +kernel
theorem dL_law_914 : decode cL_law 914 = .ok (.aload_n 0, 1) := by decide +kernel
theorem dL_law_915 : decode cL_law 915 = .ok (.iload_n 3, 1) := by decide +kernel
theorem dL_law_916 : decode cL_law 916 = .ok (.iconst 1, 1) := by decide +kernel
theorem dL_law_917 : decode cL_law 917 = .ok (.iadd, 1) := by decide +kernel
theorem dL_law_918 : decode cL_law 918 = .ok (.iaload, 1) := by decide +kernel
theorem dL_law_919 : decode cL_law 919 = .ok (.invokevirtual 105, 3) := by decide +kernel
theorem dL_law_922 : decode cL_law 922 = .ok (.aload_n 2, 1) := by decide +kernel
theorem dL_law_923 : decode cL_law 923 = .ok (.aload_n 0, 1) := by decide +kernel
theorem dL_law_924 : decode cL_law 924 = .ok (.iload_n 3, 1) := by decide +kernel
theorem dL_law_925 : decode cL_law 925 = .ok (.iconst 1, 1) := by decide +kernel
theorem dL_law_926 : decode cL_law 926 = .ok (.iadd, 1) := by decide +kernel
theorem dL_law_927 : decode cL_law 927 = .ok (.iaload, 1) := by decide +kernel
theorem dL_law_928 : decode cL_law 928 = .ok (.invokevirtual 108, 3) := by decide +kernel
theorem dL_law_931 : decode cL_law 931 = .ok (.if_icmp .eq 416, 3) := by decide +kernel
theorem dL_law_934 : decode cL_law 934 = .ok (.iconst 0, 1) := by decide +kernel
theorem dL_law_935 : decode cL_law 935 = .ok (.ireturn, 1) := by decide +kernel
theorem dL_law_936 : decode cL_law 936 = .ok (.aload_n 1, 1) := by decide +kernel
theorem dL_law_937 : decode cL_law 937 = .ok (.aload_n 0, 1) := by decide +kernel
theorem dL_law_938 : decode cL_law 938 = .ok (.iload_n 3, 1) := by decide +kernel
theorem dL_law_939 : decode cL_law 939 = .ok (.iconst 1, 1) := by decide +kernel
theorem dL_law_940 : decode cL_law 940 = .ok (.iadd, 1) := by decide +kernel
theorem dL_law_941 : decode cL_law 941 = .ok (.iaload, 1) := by decide +kernel
theorem dL_law_942 : decode cL_law 942 = .ok (.invokevirtual 109, 3) := by decide +kernel
theorem dL_law_945 : decode cL_law 945 = .ok (.aload_n 2, 1) := by decide +kernel
theorem dL_law_946 : decode cL_law 946 = .ok (.aload_n 0, 1) := by decide +kernel
theorem dL_law_947 : decode cL_law 947 = .ok (.iload_n 3, 1) := by decide +kernel
theorem dL_law_948 : decode cL_law 948 = .ok (.iconst 1, 1) := by decide +kernel
theorem dL_law_949 : decode cL_law 949 = .ok (.iadd, 1) := by decide +kernel
theorem dL_law_950 : decode cL_law 950 = .ok (.iaload, 1) := by decide +kernel
theorem dL_law_951 : decode cL_law 951 = .ok (.invokevirtual 112, 3) := by decide +kernel
theorem dL_law_954 : decode cL_law 954 = .ok (.if_icmp .eq 393, 3) := by decide +kernel
theorem dL_law_957 : decode cL_law 957 = .ok (.iconst 0, 1) := by decide +kernel
theorem dL_law_958 : decode cL_law 958 = .ok (.ireturn, 1) := by decide +kernel
theorem dL_law_959 : decode cL_law 959 = .ok (.aload_n 1, 1) := by decide +kernel
theorem dL_law_960 : decode cL_law 960 = .ok (.aload_n 0, 1) := by decide +kernel
theorem dL_law_961 : decode cL_law 961 = .ok (.iload_n 3, 1) := by decide +kernel
theorem dL_law_962 : decode cL_law 962 = .ok (.iconst 1, 1) := by decide +kernel
theorem dL_law_963 : decode cL_law 963 = .ok (.iadd, 1) := by decide +kernel
theorem dL_law_964 : decode cL_law 964 = .ok (.iaload, 1) := by decide +kernel
theorem dL_law_965 : decode cL_law 965 = .ok (.aload_n 0, 1) := by decide +kernel
theorem dL_law_966 : decode cL_law 966 = .ok (.iload_n 3, 1) := by decide +kernel
theorem dL_law_967 : decode cL_law 967 = .ok (.iconst 2, 1) := by decide +kernel
theorem dL_law_968 : decode cL_law 968 = .ok (.iadd, 1) := by decide +kernel
theorem dL_law_969 : decode cL_law 969 = .ok (.iaload, 1) := by decide +kernel
theorem dL_law_970 : decode cL_law 970 = .ok (.aload_n 0, 1) := by decide +kernel
theorem dL_law_971 : decode cL_law 971 = .ok (.iload_n 3, 1) := by decide +kernel
theorem dL_law_972 : decode cL_law 972 = .ok (.iconst 3, 1) := by decide +kernel
theorem dL_law_973 : decode cL_law 973 = .ok (.iadd, 1) := by decide +kernel
theorem dL_law_974 : decode cL_law 974 = .ok (.iaload, 1) := by decide +kernel
theorem dL_law_975 : decode cL_law 975 = .ok (.invokevirtual 113, 3) := by decide +kernel
theorem dL_law_978 : decode cL_law 978 = .ok (.aload_n 2, 1) := by decide +kernel
theorem dL_law_979 : decode cL_law 979 = .ok (.aload_n 0, 1) := by decide +kernel
theorem dL_law_980 : decode cL_law 980 = .ok (.iload_n 3, 1) := by decide +kernel
theorem dL_law_981 : decode cL_law 981 = .ok (.iconst 1, 1) := by decide +kernel
theorem dL_law_982 : decode cL_law 982 = .ok (.iadd, 1) := by decide +kernel
theorem dL_law_983 : decode cL_law 983 = .ok (.iaload, 1) := by decide +kernel
theorem dL_law_984 : decode cL_law 984 = .ok (.aload_n 0, 1) := by decide +kernel
theorem dL_law_985 : decode cL_law 985 = .ok (.iload_n 3, 1) := by decide +kernel
theorem dL_law_986 : decode cL_law 986 = .ok (.iconst 2, 1) := by decide +kernel
theorem dL_law_987 : decode cL_law 987 = .ok (.iadd, 1) := by decide +kernel
theorem dL_law_988 : decode cL_law 988 = .ok (.iaload, 1) := by decide +kernel
theorem dL_law_989 : decode cL_law 989 = .ok (.aload_n 0, 1) := by decide +kernel
theorem dL_law_990 : decode cL_law 990 = .ok (.iload_n 3, 1) := by decide +kernel
theorem dL_law_991 : decode cL_law 991 = .ok (.iconst 3, 1) := by decide +kernel
theorem dL_law_992 : decode cL_law 992 = .ok (.iadd, 1) := by decide +kernel
theorem dL_law_993 : decode cL_law 993 = .ok (.iaload, 1) := by decide +kernel
theorem dL_law_994 : decode cL_law 994 = .ok (.invokevirtual 117, 3) := by decide +kernel
theorem dL_law_997 : decode cL_law 997 = .ok (.lcmp, 1) := by decide +kernel
theorem dL_law_998 : decode cL_law 998 = .ok (.ifCond .eq 349, 3) := by decide +kernel
theorem dL_law_1001 : decode cL_law 1001 = .ok (.iconst 0, 1) := by decide +kernel
theorem dL_law_1002 : decode cL_law 1002 = .ok (.ireturn, 1) := by decide +kernel
theorem dL_law_1003 : decode cL_law 1003 = .ok (.aload_n 1, 1) := by decide +kernel
theorem dL_law_1004 : decode cL_law 1004 = .ok (.aload_n 0, 1) := by decide +kernel
theorem dL_law_1005 : decode cL_law 1005 = .ok (.iload_n 3, 1) := by decide +kernel
theorem dL_law_1006 : decode cL_law 1006 = .ok (.iconst 1, 1) := by decide +kernel
theorem dL_law_1007 : decode cL_law 1007 = .ok (.iadd, 1) := by decide +kernel
theorem dL_law_1008 : decode cL_law 1008 = .ok (.iaload, 1) := by decide +kernel
theorem dL_law_1009 : decode cL_law 1009 = .ok (.aload_n 0, 1) := by decide +kernel
theorem dL_law_1010 : decode cL_law 1010 = .ok (.iload_n 3, 1) := by decide +kernel
theorem dL_law_1011 : decode cL_law 1011 = .ok (.iconst 2, 1) := by decide +kernel
theorem dL_law_1012 : decode cL_law 1012 = .ok (.iadd, 1) := by decide +kernel
theorem dL_law_1013 : decode cL_law 1013 = .ok (.iaload, 1) := by decide +kernel
theorem dL_law_1014 : decode cL_law 1014 = .ok (.aload_n 0, 1) := by decide +kernel
theorem dL_law_1015 : decode cL_law 1015 = .ok (.iload_n 3, 1) := by decide +kernel
theorem dL_law_1016 : decode cL_law 1016 = .ok (.iconst 3, 1) := by decide +kernel
theorem dL_law_1017 : decode cL_law 1017 = .ok (.iadd, 1) := by decide +kernel
theorem dL_law_1018 : decode cL_law 1018 = .ok (.iaload, 1) := by decide +kernel
theorem dL_law_1019 : decode cL_law 1019 = .ok (.invokevirtual 118, 3) := by decide +kernel
theorem dL_law_1022 : decode cL_law 1022 = .ok (.aload_n 2, 1) := by decide +kernel
theorem dL_law_1023 : decode cL_law 1023 = .ok (.aload_n 0, 1) := by decide +kernel
theorem dL_law_1024 : decode cL_law 1024 = .ok (.iload_n 3, 1) := by decide +kernel
theorem dL_law_1025 : decode cL_law 1025 = .ok (.iconst 1, 1) := by decide +kernel
theorem dL_law_1026 : decode cL_law 1026 = .ok (.iadd, 1) := by decide +kernel
theorem dL_law_1027 : decode cL_law 1027 = .ok (.iaload, 1) := by decide +kernel
theorem dL_law_1028 : decode cL_law 1028 = .ok (.aload_n 0, 1) := by decide +kernel
theorem dL_law_1029 : decode cL_law 1029 = .ok (.iload_n 3, 1) := by decide +kernel
theorem dL_law_1030 : decode cL_law 1030 = .ok (.iconst 2, 1) := by decide +kernel
theorem dL_law_1031 : decode cL_law 1031 = .ok (.iadd, 1) := by decide +kernel
theorem dL_law_1032 : decode cL_law 1032 = .ok (.iaload, 1) := by decide +kernel
theorem dL_law_1033 : decode cL_law 1033 = .ok (.aload_n 0, 1) := by decide +kernel
theorem dL_law_1034 : decode cL_law 1034 = .ok (.iload_n 3, 1) := by decide +kernel
theorem dL_law_1035 : decode cL_law 1035 = .ok (.iconst 3, 1) := by decide +kernel
theorem dL_law_1036 : decode cL_law 1036 = .ok (.iadd, 1) := by decide +kernel
theorem dL_law_1037 : decode cL_law 1037 = .ok (.iaload, 1) := by decide +kernel
theorem dL_law_1038 : decode cL_law 1038 = .ok (.invokevirtual 121, 3) := by decide +kernel
theorem dL_law_1041 : decode cL_law 1041 = .ok (.if_icmp .eq 306, 3) := by decide +kernel
theorem dL_law_1044 : decode cL_law 1044 = .ok (.iconst 0, 1) := by decide +kernel
theorem dL_law_1045 : decode cL_law 1045 = .ok (.ireturn, 1) := by decide +kernel
theorem dL_law_1046 : decode cL_law 1046 = .ok (.aload_n 1, 1) := by decide +kernel
theorem dL_law_1047 : decode cL_law 1047 = .ok (.aload_n 0, 1) := by decide +kernel
theorem dL_law_1048 : decode cL_law 1048 = .ok (.iload_n 3, 1) := by decide +kernel
theorem dL_law_1049 : decode cL_law 1049 = .ok (.iconst 1, 1) := by decide +kernel
theorem dL_law_1050 : decode cL_law 1050 = .ok (.iadd, 1) := by decide +kernel
theorem dL_law_1051 : decode cL_law 1051 = .ok (.iaload, 1) := by decide +kernel
theorem dL_law_1052 : decode cL_law 1052 = .ok (.invokevirtual 122, 3) := by decide +kernel
theorem dL_law_1055 : decode cL_law 1055 = .ok (.aload_n 2, 1) := by decide +kernel
theorem dL_law_1056 : decode cL_law 1056 = .ok (.aload_n 0, 1) := by decide +kernel
theorem dL_law_1057 : decode cL_law 1057 = .ok (.iload_n 3, 1) := by decide +kernel
theorem dL_law_1058 : decode cL_law 1058 = .ok (.iconst 1, 1) := by decide +kernel
theorem dL_law_1059 : decode cL_law 1059 = .ok (.iadd, 1) := by decide +kernel
theorem dL_law_1060 : decode cL_law 1060 = .ok (.iaload, 1) := by decide +kernel
theorem dL_law_1061 : decode cL_law 1061 = .ok (.invokevirtual 125, 3) := by decide +kernel
theorem dL_law_1064 : decode cL_law 1064 = .ok (.if_icmp .eq 283, 3) := by decide +kernel
theorem dL_law_1067 : decode cL_law 1067 = .ok (.iconst 0, 1) := by decide +kernel
theorem dL_law_1068 : decode cL_law 1068 = .ok (.ireturn, 1) := by decide +kernel
theorem dL_law_1069 : decode cL_law 1069 = .ok (.aload_n 1, 1) := by decide +kernel
theorem dL_law_1070 : decode cL_law 1070 = .ok (.aload_n 0, 1) := by decide +kernel
theorem dL_law_1071 : decode cL_law 1071 = .ok (.iload_n 3, 1) := by decide +kernel
theorem dL_law_1072 : decode cL_law 1072 = .ok (.iconst 1, 1) := by decide +kernel
theorem dL_law_1073 : decode cL_law 1073 = .ok (.iadd, 1) := by decide +kernel
theorem dL_law_1074 : decode cL_law 1074 = .ok (.iaload, 1) := by decide +kernel
theorem dL_law_1075 : decode cL_law 1075 = .ok (.aload_n 0, 1) := by decide +kernel
theorem dL_law_1076 : decode cL_law 1076 = .ok (.iload_n 3, 1) := by decide +kernel
theorem dL_law_1077 : decode cL_law 1077 = .ok (.iconst 2, 1) := by decide +kernel
theorem dL_law_1078 : decode cL_law 1078 = .ok (.iadd, 1) := by decide +kernel
theorem dL_law_1079 : decode cL_law 1079 = .ok (.iaload, 1) := by decide +kernel
theorem dL_law_1080 : decode cL_law 1080 = .ok (.aload_n 0, 1) := by decide +kernel
theorem dL_law_1081 : decode cL_law 1081 = .ok (.iload_n 3, 1) := by decide +kernel
theorem dL_law_1082 : decode cL_law 1082 = .ok (.iconst 3, 1) := by decide +kernel
theorem dL_law_1083 : decode cL_law 1083 = .ok (.iadd, 1) := by decide +kernel
theorem dL_law_1084 : decode cL_law 1084 = .ok (.iaload, 1) := by decide +kernel
theorem dL_law_1085 : decode cL_law 1085 = .ok (.invokevirtual 126, 3) := by decide +kernel
theorem dL_law_1088 : decode cL_law 1088 = .ok (.aload_n 2, 1) := by decide +kernel
theorem dL_law_1089 : decode cL_law 1089 = .ok (.aload_n 0, 1) := by decide +kernel
theorem dL_law_1090 : decode cL_law 1090 = .ok (.iload_n 3, 1) := by decide +kernel
theorem dL_law_1091 : decode cL_law 1091 = .ok (.iconst 1, 1) := by decide +kernel
theorem dL_law_1092 : decode cL_law 1092 = .ok (.iadd, 1) := by decide +kernel
theorem dL_law_1093 : decode cL_law 1093 = .ok (.iaload, 1) := by decide +kernel
theorem dL_law_1094 : decode cL_law 1094 = .ok (.aload_n 0, 1) := by decide +kernel
theorem dL_law_1095 : decode cL_law 1095 = .ok (.iload_n 3, 1) := by decide +kernel
theorem dL_law_1096 : decode cL_law 1096 = .ok (.iconst 2, 1) := by decide +kernel
end
section
theorem dL_law_1097 : decode cL_law 1097 = .ok (.iadd, 1) := by decide +kernel
theorem dL_law_1098 : decode cL_law 1098 = .ok (.iaload, 1) := by decide +kernel
theorem dL_law_1099 : decode cL_law 1099 = .ok (.aload_n 0, 1) := by decide +kernel
theorem dL_law_1100 : decode cL_law 1100 = .ok (.iload_n 3, 1) := by decide +kernel
theorem dL_law_1101 : decode cL_law 1101 = .ok (.iconst 3, 1) := by decide +kernel
theorem dL_law_1102 : decode cL_law 1102 = .ok (.iadd, 1) := by decide +kernel
theorem dL_law_1103 : decode cL_law 1103 = .ok (.iaload, 1) := by decide +kernel
theorem dL_law_1104 : decode cL_law 1104 = .ok (.invokevirtual 129, 3) := by decide +kernel
theorem dL_law_1107 : decode cL_law 1107 = .ok (.if_icmp .eq 240, 3) := by decide +kernel
theorem dL_law_1110 : decode cL_law 1110 = .ok (.iconst 0, 1) := by decide +kernel
theorem dL_law_1111 : decode cL_law 1111 = .ok (.ireturn, 1) := by decide +kernel
theorem dL_law_1112 : decode cL_law 1112 = .ok (.aload_n 1, 1) := by decide +kernel
theorem dL_law_1113 : decode cL_law 1113 = .ok (.aload_n 0, 1) := by decide +kernel
theorem dL_law_1114 : decode cL_law 1114 = .ok (.iload_n 3, 1) := by decide +kernel
theorem dL_law_1115 : decode cL_law 1115 = .ok (.iconst 1, 1) := by decide +kernel
theorem dL_law_1116 : decode cL_law 1116 = .ok (.iadd, 1) := by decide +kernel
theorem dL_law_1117 : decode cL_law 1117 = .ok (.iaload, 1) := by decide +kernel
theorem dL_law_1118 : decode cL_law 1118 = .ok (.aload_n 0, 1) := by decide +kernel
theorem dL_law_1119 : decode cL_law 1119 = .ok (.iload_n 3, 1) := by decide +kernel
theorem dL_law_1120 : decode cL_law 1120 = .ok (.iconst 2, 1) := by decide +kernel
theorem dL_law_1121 : decode cL_law 1121 = .ok (.iadd, 1) := by decide +kernel
theorem dL_law_1122 : decode cL_law 1122 = .ok (.iaload, 1) := by decide +kernel
theorem dL_law_1123 : decode cL_law 1123 = .ok (.aload_n 0, 1) := by decide +kernel
theorem dL_law_1124 : decode cL_law 1124 = .ok (.iload_n 3, 1) := by decide +kernel
theorem dL_law_1125 : decode cL_law 1125 = .ok (.iconst 3, 1) := by decide +kernel
theorem dL_law_1126 : decode cL_law 1126 = .ok (.iadd, 1) := by decide +kernel
theorem dL_law_1127 : decode cL_law 1127 = .ok (.iaload, 1) := by decide +kernel
theorem dL_law_1128 : decode cL_law 1128 = .ok (.invokevirtual 130, 3) := by decide +kernel
theorem dL_law_1131 : decode cL_law 1131 = .ok (.aload_n 2, 1) := by decide +kernel
theorem dL_law_1132 : decode cL_law 1132 = .ok (.aload_n 0, 1) := by decide +kernel
theorem dL_law_1133 : decode cL_law 1133 = .ok (.iload_n 3, 1) := by decide +kernel
theorem dL_law_1134 : decode cL_law 1134 = .ok (.iconst 1, 1) := by decide +kernel
theorem dL_law_1135 : decode cL_law 1135 = .ok (.iadd, 1) := by decide +kernel
theorem dL_law_1136 : decode cL_law 1136 = .ok (.iaload, 1) := by decide +kernel
theorem dL_law_1137 : decode cL_law 1137 = .ok (.aload_n 0, 1) := by decide +kernel
theorem dL_law_1138 : decode cL_law 1138 = .ok (.iload_n 3, 1) := by decide +kernel
theorem dL_law_1139 : decode cL_law 1139 = .ok (.iconst 2, 1) := by decide +kernel
theorem dL_law_1140 : decode cL_law 1140 = .ok (.iadd, 1) := by decide +kernel
theorem dL_law_1141 : decode cL_law 1141 = .ok (.iaload, 1) := by decide +kernel
theorem dL_law_1142 : decode cL_law 1142 = .ok (.aload_n 0, 1) := by decide +kernel
theorem dL_law_1143 : decode cL_law 1143 = .ok (.iload_n 3, 1) := by decide +kernel
theorem dL_law_1144 : decode cL_law 1144 = .ok (.iconst 3, 1) := by decide +kernel
theorem dL_law_1145 : decode cL_law 1145 = .ok (.iadd, 1) := by decide +kernel
theorem dL_law_1146 : decode cL_law 1146 = .ok (.iaload, 1) := by decide +kernel
theorem dL_law_1147 : decode cL_law 1147 = .ok (.invokevirtual 133, 3) := by decide +kernel
theorem dL_law_1150 : decode cL_law 1150 = .ok (.lcmp, 1) := by decide +kernel
theorem dL_law_1151 : decode cL_law 1151 = .ok (.ifCond .eq 196, 3) := by decide +kernel
theorem dL_law_1154 : decode cL_law 1154 = .ok (.iconst 0, 1) := by decide +kernel
theorem dL_law_1155 : decode cL_law 1155 = .ok (.ireturn, 1) := by decide +kernel
theorem dL_law_1156 : decode cL_law 1156 = .ok (.aload_n 1, 1) := by decide +kernel
theorem dL_law_1157 : decode cL_law 1157 = .ok (.aload_n 0, 1) := by decide +kernel
theorem dL_law_1158 : decode cL_law 1158 = .ok (.iload_n 3, 1) := by decide +kernel
theorem dL_law_1159 : decode cL_law 1159 = .ok (.iconst 1, 1) := by decide +kernel
theorem dL_law_1160 : decode cL_law 1160 = .ok (.iadd, 1) := by decide +kernel
theorem dL_law_1161 : decode cL_law 1161 = .ok (.iaload, 1) := by decide +kernel
theorem dL_law_1162 : decode cL_law 1162 = .ok (.aload_n 0, 1) := by decide +kernel
theorem dL_law_1163 : decode cL_law 1163 = .ok (.iload_n 3, 1) := by decide +kernel
theorem dL_law_1164 : decode cL_law 1164 = .ok (.iconst 2, 1) := by decide +kernel
theorem dL_law_1165 : decode cL_law 1165 = .ok (.iadd, 1) := by decide +kernel
theorem dL_law_1166 : decode cL_law 1166 = .ok (.iaload, 1) := by decide +kernel
theorem dL_law_1167 : decode cL_law 1167 = .ok (.aload_n 0, 1) := by decide +kernel
theorem dL_law_1168 : decode cL_law 1168 = .ok (.iload_n 3, 1) := by decide +kernel
theorem dL_law_1169 : decode cL_law 1169 = .ok (.iconst 3, 1) := by decide +kernel
theorem dL_law_1170 : decode cL_law 1170 = .ok (.iadd, 1) := by decide +kernel
theorem dL_law_1171 : decode cL_law 1171 = .ok (.iaload, 1) := by decide +kernel
theorem dL_law_1172 : decode cL_law 1172 = .ok (.aload_n 0, 1) := by decide +kernel
theorem dL_law_1173 : decode cL_law 1173 = .ok (.iload_n 3, 1) := by decide +kernel
theorem dL_law_1174 : decode cL_law 1174 = .ok (.iconst 4, 1) := by decide +kernel
theorem dL_law_1175 : decode cL_law 1175 = .ok (.iadd, 1) := by decide +kernel
theorem dL_law_1176 : decode cL_law 1176 = .ok (.iaload, 1) := by decide +kernel
theorem dL_law_1177 : decode cL_law 1177 = .ok (.aload_n 0, 1) := by decide +kernel
theorem dL_law_1178 : decode cL_law 1178 = .ok (.iload_n 3, 1) := by decide +kernel
theorem dL_law_1179 : decode cL_law 1179 = .ok (.iconst 5, 1) := by decide +kernel
theorem dL_law_1180 : decode cL_law 1180 = .ok (.iadd, 1) := by decide +kernel
theorem dL_law_1181 : decode cL_law 1181 = .ok (.iaload, 1) := by decide +kernel
theorem dL_law_1182 : decode cL_law 1182 = .ok (.invokevirtual 134, 3) := by decide +kernel
theorem dL_law_1185 : decode cL_law 1185 = .ok (.aload_n 2, 1) := by decide +kernel
theorem dL_law_1186 : decode cL_law 1186 = .ok (.aload_n 0, 1) := by decide +kernel
theorem dL_law_1187 : decode cL_law 1187 = .ok (.iload_n 3, 1) := by decide +kernel
theorem dL_law_1188 : decode cL_law 1188 = .ok (.iconst 1, 1) := by decide +kernel
theorem dL_law_1189 : decode cL_law 1189 = .ok (.iadd, 1) := by decide +kernel
theorem dL_law_1190 : decode cL_law 1190 = .ok (.iaload, 1) := by decide +kernel
theorem dL_law_1191 : decode cL_law 1191 = .ok (.aload_n 0, 1) := by decide +kernel
theorem dL_law_1192 : decode cL_law 1192 = .ok (.iload_n 3, 1) := by decide +kernel
theorem dL_law_1193 : decode cL_law 1193 = .ok (.iconst 2, 1) := by decide +kernel
theorem dL_law_1194 : decode cL_law 1194 = .ok (.iadd, 1) := by decide +kernel
theorem dL_law_1195 : decode cL_law 1195 = .ok (.iaload, 1) := by decide +kernel
theorem dL_law_1196 : decode cL_law 1196 = .ok (.aload_n 0, 1) := by decide +kernel
theorem dL_law_1197 : decode cL_law 1197 = .ok (.iload_n 3, 1) := by decide +kernel
theorem dL_law_1198 : decode cL_law 1198 = .ok (.iconst 3, 1) := by decide +kernel
theorem dL_law_1199 : decode cL_law 1199 = .ok (.iadd, 1) := by decide +kernel
theorem dL_law_1200 : decode cL_law 1200 = .ok (.iaload, 1) := by decide +kernel
theorem dL_law_1201 : decode cL_law 1201 = .ok (.aload_n 0, 1) := by decide +kernel
theorem dL_law_1202 : decode cL_law 1202 = .ok (.iload_n 3, 1) := by decide +kernel
theorem dL_law_1203 : decode cL_law 1203 = .ok (.iconst 4, 1) := by decide +kernel
theorem dL_law_1204 : decode cL_law 1204 = .ok (.iadd, 1) := by decide +kernel
theorem dL_law_1205 : decode cL_law 1205 = .ok (.iaload, 1) := by decide +kernel
theorem dL_law_1206 : decode cL_law 1206 = .ok (.aload_n 0, 1) := by decide +kernel
theorem dL_law_1207 : decode cL_law 1207 = .ok (.iload_n 3, 1) := by decide +kernel
theorem dL_law_1208 : decode cL_law 1208 = .ok (.iconst 5, 1) := by decide +kernel
theorem dL_law_1209 : decode cL_law 1209 = .ok (.iadd, 1) := by decide +kernel
theorem dL_law_1210 : decode cL_law 1210 = .ok (.iaload, 1) := by decide +kernel
theorem dL_law_1211 : decode cL_law 1211 = .ok (.invokevirtual 137, 3) := by decide +kernel
theorem dL_law_1214 : decode cL_law 1214 = .ok (.if_icmp .eq 133, 3) := by decide +kernel
theorem dL_law_1217 : decode cL_law 1217 = .ok (.iconst 0, 1) := by decide +kernel
theorem dL_law_1218 : decode cL_law 1218 = .ok (.ireturn, 1) := by decide +kernel
theorem dL_law_1219 : decode cL_law 1219 = .ok (.aload_n 1, 1) := by decide +kernel
theorem dL_law_1220 : decode cL_law 1220 = .ok (.aload_n 0, 1) := by decide +kernel
theorem dL_law_1221 : decode cL_law 1221 = .ok (.iload_n 3, 1) := by decide +kernel
theorem dL_law_1222 : decode cL_law 1222 = .ok (.iconst 1, 1) := by decide +kernel
theorem dL_law_1223 : decode cL_law 1223 = .ok (.iadd, 1) := by decide +kernel
theorem dL_law_1224 : decode cL_law 1224 = .ok (.iaload, 1) := by decide +kernel
theorem dL_law_1225 : decode cL_law 1225 = .ok (.invokevirtual 138, 3) := by decide +kernel
theorem dL_law_1228 : decode cL_law 1228 = .ok (.aload_n 2, 1) := by decide +kernel
theorem dL_law_1229 : decode cL_law 1229 = .ok (.aload_n 0, 1) := by decide +kernel
theorem dL_law_1230 : decode cL_law 1230 = .ok (.iload_n 3, 1) := by decide +kernel
theorem dL_law_1231 : decode cL_law 1231 = .ok (.iconst 1, 1) := by decide +kernel
theorem dL_law_1232 : decode cL_law 1232 = .ok (.iadd, 1) := by decide +kernel
theorem dL_law_1233 : decode cL_law 1233 = .ok (.iaload, 1) := by decide +kernel
theorem dL_law_1234 : decode cL_law 1234 = .ok (.invokevirtual 141, 3) := by decide +kernel
theorem dL_law_1237 : decode cL_law 1237 = .ok (.if_icmp .eq 110, 3) := by decide +kernel
theorem dL_law_1240 : decode cL_law 1240 = .ok (.iconst 0, 1) := by decide +kernel
theorem dL_law_1241 : decode cL_law 1241 = .ok (.ireturn, 1) := by decide +kernel
theorem dL_law_1242 : decode cL_law 1242 = .ok (.aload_n 1, 1) := by decide +kernel
theorem dL_law_1243 : decode cL_law 1243 = .ok (.aload_n 0, 1) := by decide +kernel
theorem dL_law_1244 : decode cL_law 1244 = .ok (.iload_n 3, 1) := by decide +kernel
theorem dL_law_1245 : decode cL_law 1245 = .ok (.iconst 1, 1) := by decide +kernel
theorem dL_law_1246 : decode cL_law 1246 = .ok (.iadd, 1) := by decide +kernel
theorem dL_law_1247 : decode cL_law 1247 = .ok (.iaload, 1) := by decide +kernel
theorem dL_law_1248 : decode cL_law 1248 = .ok (.invokevirtual 142, 3) := by decide +kernel
theorem dL_law_1251 : decode cL_law 1251 = .ok (.aload_n 2, 1) := by decide +kernel
theorem dL_law_1252 : decode cL_law 1252 = .ok (.aload_n 0, 1) := by decide +kernel
theorem dL_law_1253 : decode cL_law 1253 = .ok (.iload_n 3, 1) := by decide +kernel
theorem dL_law_1254 : decode cL_law 1254 = .ok (.iconst 1, 1) := by decide +kernel
theorem dL_law_1255 : decode cL_law 1255 = .ok (.iadd, 1) := by decide +kernel
theorem dL_law_1256 : decode cL_law 1256 = .ok (.iaload, 1) := by decide +kernel
theorem dL_law_1257 : decode cL_law 1257 = .ok (.invokevirtual 145, 3) := by decide +kernel
theorem dL_law_1260 : decode cL_law 1260 = .ok (.if_icmp .eq 87, 3) := by decide +kernel
theorem dL_law_1263 : decode cL_law 1263 = .ok (.iconst 0, 1) := by decide +kernel
theorem dL_law_1264 : decode cL_law 1264 = .ok (.ireturn, 1) := by decide +kernel
theorem dL_law_1265 : decode cL_law 1265 = .ok (.aload_n 1, 1) := by decide +kernel
theorem dL_law_1266 : decode cL_law 1266 = .ok (.aload_n 0, 1) := by decide +kernel
theorem dL_law_1267 : decode cL_law 1267 = .ok (.iload_n 3, 1) := by decide +kernel
theorem dL_law_1268 : decode cL_law 1268 = .ok (.iconst 1, 1) := by decide +kernel
theorem dL_law_1269 : decode cL_law 1269 = .ok (.iadd, 1) := by decide +kernel
theorem dL_law_1270 : decode cL_law 1270 = .ok (.iaload, 1) := by decide +kernel
theorem dL_law_1271 : decode cL_law 1271 = .ok (.aload_n 0, 1) := by decide +kernel
theorem dL_law_1272 : decode cL_law 1272 = .ok (.iload_n 3, 1) := by decide +kernel
theorem dL_law_1273 : decode cL_law 1273 = .ok (.iconst 2, 1) := by decide +kernel
theorem dL_law_1274 : decode cL_law 1274 = .ok (.iadd, 1) := by decide +kernel
theorem dL_law_1275 : decode cL_law 1275 = .ok (.iaload, 1) := by decide +kernel
theorem dL_law_1276 : decode cL_law 1276 = .ok (.invokevirtual 146, 3) := by decide +kernel
theorem dL_law_1279 : decode cL_law 1279 = .ok (.aload_n 2, 1) := by decide +kernel
theorem dL_law_1280 : decode cL_law 1280 = .ok (.aload_n 0, 1) := by decide +kernel
theorem dL_law_1281 : decode cL_law 1281 = .ok (.iload_n 3, 1) := by decide +kernel
theorem dL_law_1282 : decode cL_law 1282 = .ok (.iconst 1, 1) := by decide +kernel
theorem dL_law_1283 : decode cL_law 1283 = .ok (.iadd, 1) := by decide +kernel
theorem dL_law_1284 : decode cL_law 1284 = .ok (.iaload, 1) := by decide +kernel
theorem dL_law_1285 : decode cL_law 1285 = .ok (.aload_n 0, 1) := by decide +kernel
theorem dL_law_1286 : decode cL_law 1286 = .ok (.iload_n 3, 1) := by decide +kernel
theorem dL_law_1287 : decode cL_law 1287 = .ok (.iconst 2, 1) := by decide +kernel
theorem dL_law_1288 : decode cL_law 1288 = .ok (.iadd, 1) := by decide +kernel
theorem dL_law_1289 : decode cL_law 1289 = .ok (.iaload, 1) := by decide +kernel
theorem dL_law_1290 : decode cL_law 1290 = .ok (.invokevirtual 149, 3) := by decide +kernel
theorem dL_law_1293 : decode cL_law 1293 = .ok (.if_icmp .eq 54, 3) := by decide +kernel
theorem dL_law_1296 : decode cL_law 1296 = .ok (.iconst 0, 1) := by decide +kernel
theorem dL_law_1297 : decode cL_law 1297 = .ok (.ireturn, 1) := by decide +kernel
theorem dL_law_1298 : decode cL_law 1298 = .ok (.aload_n 1, 1) := by decide +kernel
theorem dL_law_1299 : decode cL_law 1299 = .ok (.invokevirtual 150, 3) := by decide +kernel
theorem dL_law_1302 : decode cL_law 1302 = .ok (.aload_n 2, 1) := by decide +kernel
theorem dL_law_1303 : decode cL_law 1303 = .ok (.invokevirtual 153, 3) := by decide +kernel
theorem dL_law_1306 : decode cL_law 1306 = .ok (.if_icmp .eq 41, 3) := by decide +kernel
theorem dL_law_1309 : decode cL_law 1309 = .ok (.iconst 0, 1) := by decide +kernel
theorem dL_law_1310 : decode cL_law 1310 = .ok (.ireturn, 1) := by decide +kernel
theorem dL_law_1311 : decode cL_law 1311 = .ok (.aload_n 1, 1) := by decide +kernel
theorem dL_law_1312 : decode cL_law 1312 = .ok (.invokevirtual 154, 3) := by decide +kernel
theorem dL_law_1315 : decode cL_law 1315 = .ok (.aload_n 2, 1) := by decide +kernel
theorem dL_law_1316 : decode cL_law 1316 = .ok (.invokevirtual 157, 3) := by decide +kernel
theorem dL_law_1319 : decode cL_law 1319 = .ok (.if_icmp .eq 28, 3) := by decide +kernel
theorem dL_law_1322 : decode cL_law 1322 = .ok (.iconst 0, 1) := by decide +kernel
theorem dL_law_1323 : decode cL_law 1323 = .ok (.ireturn, 1) := by decide +kernel
theorem dL_law_1324 : decode cL_law 1324 = .ok (.aload_n 1, 1) := by decide +kernel
theorem dL_law_1325 : decode cL_law 1325 = .ok (.aload_n 0, 1) := by decide +kernel
theorem dL_law_1326 : decode cL_law 1326 = .ok (.iload_n 3, 1) := by decide +kernel
theorem dL_law_1327 : decode cL_law 1327 = .ok (.iconst 1, 1) := by decide +kernel
theorem dL_law_1328 : decode cL_law 1328 = .ok (.iadd, 1) := by decide +kernel
theorem dL_law_1329 : decode cL_law 1329 = .ok (.iaload, 1) := by decide +kernel
theorem dL_law_1330 : decode cL_law 1330 = .ok (.invokevirtual 158, 3) := by decide +kernel
theorem dL_law_1333 : decode cL_law 1333 = .ok (.aload_n 2, 1) := by decide +kernel
theorem dL_law_1334 : decode cL_law 1334 = .ok (.aload_n 0, 1) := by decide +kernel
theorem dL_law_1335 : decode cL_law 1335 = .ok (.iload_n 3, 1) := by decide +kernel
theorem dL_law_1336 : decode cL_law 1336 = .ok (.iconst 1, 1) := by decide +kernel
theorem dL_law_1337 : decode cL_law 1337 = .ok (.iadd, 1) := by decide +kernel
theorem dL_law_1338 : decode cL_law 1338 = .ok (.iaload, 1) := by decide +kernel
theorem dL_law_1339 : decode cL_law 1339 = .ok (.invokevirtual 161, 3) := by decide +kernel
theorem dL_law_1342 : decode cL_law 1342 = .ok (.if_icmp .eq 5, 3) := by decide +kernel
theorem dL_law_1345 : decode cL_law 1345 = .ok (.iconst 0, 1) := by decide +kernel
theorem dL_law_1346 : decode cL_law 1346 = .ok (.ireturn, 1) := by decide +kernel
theorem dL_law_1347 : decode cL_law 1347 = .ok (.iinc 3 6, 3) := by decide +kernel
theorem dL_law_1350 : decode cL_law 1350 = .ok (.goto (-1332), 3) := by decide +kernel
theorem dL_law_1353 : decode cL_law 1353 = .ok (.iconst 1, 1) := by decide +kernel
theorem dL_law_1354 : decode cL_law 1354 = .ok (.ireturn, 1) := by decide +kernel
end
section
/-! A small machine over places: what the methods do, said without addresses; one theorem ties it to the machine. -/
abbrev sm_H : Type := Nat × (Nat → Nat × Nat) × (Nat → Nat → Int32) × (Nat → Nat → Option Nat)
abbrev sm_M : Type := MethodName × ByteArray × Nat × Option FieldType
/-- a value whose references are places, as it stands in a heap whose places begin at b -/
def sm_v (b : Nat) (v : Value) : Value := match v with
  | .ref q => .ref (b + q)
  | v => v
theorem sm_v_cat (b : Nat) (v : Value) : (sm_v b v).category = v.category := by cases v <;> rfl
def sm_cl (c : Nat) : vw_C := vwCl.getD c ("", (fun _ => ("", "", "", false)), 0)
/-- the cell at a place: kinds 0 int[], 1 int[][], 2 Sheet[], c + 3 an object of class c -/
def sm_e (b : Nat) (cs : ClassId × ClassId × ClassId) (h : sm_H) (q : Nat) : va_E := match h.2.1 q with
  | (0, n) => .inl (cs.1, n, .inl (h.2.2.1 q))
  | (1, n) => .inl (cs.2.1, n, .inr (.inr (.inr (.inr (fun j => (h.2.2.2 q j).map (fun r => b + r))))))
  | (2, n) => .inl (cs.2.2, n, .inr (.inr (.inr (.inr (fun j => (h.2.2.2 q j).map (fun r => b + r))))))
  | (c + 3, _) => .inr (c, (List.range (sm_cl c).2.2).map (fun j => if ((sm_cl c).2.1 j).2.2.1 = "I" then .int (h.2.2.1 q j) else va_rf ((h.2.2.2 q j).map (fun r => b + r))))
def sm_ws (b : Nat) (cs : ClassId × ClassId × ClassId) (h : sm_H) : va_W := (List.range h.1).map (fun q => (b + q, sm_e b cs h q))
def sm_A (b : Nat) : Nat → Prop := fun q => b ≤ q
/-- the heap holds the picture h -/
def sm_W (b : Nat) (D : va_G) (cs : ClassId × ClassId × ClassId) (h : sm_H) (H : Heap) : Prop := va_P D vwCl (sm_ws b cs h) H ∧ H.size = b + h.1
theorem sm_ws_at (b : Nat) (cs : ClassId × ClassId × ClassId) (h : sm_H) {q : Nat} (hq : q < h.1) : (sm_ws b cs h)[q]? = some (b + q, sm_e b cs h q) := by
  unfold sm_ws
  rw [List.getElem?_map, List.getElem?_range hq]
  rfl
theorem sm_ws_lt {b : Nat} {cs : ClassId × ClassId × ClassId} {h : sm_H} {k : Nat} {x : Nat × va_E} (e : (sm_ws b cs h)[k]? = some x) : k < h.1 ∧ x = (b + k, sm_e b cs h k) := by
  have hk : k < h.1 := by
    have := (List.getElem?_eq_some_iff.mp e).1
    unfold sm_ws at this
    rw [List.length_map, List.length_range] at this
    exact this
  rw [sm_ws_at b cs h hk] at e
  exact ⟨hk, (Option.some.inj e).symm⟩
theorem sm_ws_D (b : Nat) (cs : ClassId × ClassId × ClassId) (h : sm_H) : va_D (sm_A b) (sm_ws b cs h) := by
  refine ⟨fun i j p q hi hj e => ?_, fun k q hk => ?_⟩
  · obtain ⟨-, rfl⟩ := sm_ws_lt hi
    obtain ⟨-, rfl⟩ := sm_ws_lt hj
    have e : b + i = b + j := e
    omega
  · obtain ⟨-, rfl⟩ := sm_ws_lt hk
    exact Nat.le_add_right b k
/-- the picture with one cell put anew -/
theorem sm_ws_set {b : Nat} {cs : ClassId × ClassId × ClassId} {h h' : sm_H} {q : Nat} {x : va_E} (hn : h'.1 = h.1) (hx : sm_e b cs h' q = x) (ho : ∀ r, r ≠ q → sm_e b cs h' r = sm_e b cs h r) : (sm_ws b cs h).set q (b + q, x) = sm_ws b cs h' := by
  apply List.ext_getElem?
  intro k
  by_cases hk : k < h.1
  · rw [sm_ws_at b cs h' (by rw [hn]; exact hk)]
    by_cases e : k = q
    · subst e
      rw [List.getElem?_set_self (by unfold sm_ws; rw [List.length_map, List.length_range]; exact hk), hx]
    · rw [List.getElem?_set_ne (Ne.symm e), sm_ws_at b cs h hk, ho k e]
  · rw [List.getElem?_eq_none (by unfold sm_ws; rw [List.length_set, List.length_map, List.length_range]; omega), List.getElem?_eq_none (by unfold sm_ws; rw [List.length_map, List.length_range, hn]; omega)]
def sm_up {α : Type} (f : Nat → Nat → α) (q j : Nat) (v : α) : Nat → Nat → α := fun q' j' => if q' = q then (if j' = j then v else f q' j') else f q' j'
def sm_si (h : sm_H) (q j : Nat) (v : Int32) : sm_H := (h.1, h.2.1, sm_up h.2.2.1 q j v, h.2.2.2)
def sm_sr (h : sm_H) (q j : Nat) (v : Option Nat) : sm_H := (h.1, h.2.1, h.2.2.1, sm_up h.2.2.2 q j v)
/-- a whole int row anew -/
def sm_sw (h : sm_H) (q : Nat) (f : Nat → Int32) : sm_H := (h.1, h.2.1, (fun q' => if q' = q then f else h.2.2.1 q'), h.2.2.2)
/-- k new places of these kinds, with 0 and null in them; refs as told -/
def sm_nw (h : sm_H) (k : Nat) (kd : Nat → Nat × Nat) (rf : Nat → Nat → Option Nat) : sm_H := (h.1 + k, (fun q => if q < h.1 then h.2.1 q else kd (q - h.1)), (fun q j => if q < h.1 then h.2.2.1 q j else 0), (fun q j => if q < h.1 then h.2.2.2 q j else rf (q - h.1) j))
/-- locals -/
def sm_kl (L : List Value) (i : Nat) : List Value := match i with
  | 0 => L
  | j + 1 => if (L.getD j .null).category = 2 then L.set j .null else L
def sm_s1 (L : List Value) (i : Nat) (v : Value) : List Value := (sm_kl L i).set i v
def sm_s2 (L : List Value) (i : Nat) (v : Value) : List Value := ((sm_kl L i).set i v).set (i + 1) .null
def sm_L (b : Nat) (ls : Array Slot) (n : Nat) (L : List Value) : Prop := ls.size = n ∧ lv_wf ls ∧ L.length = n ∧ ∀ (i : Nat) (v : Value), L[i]? = some v → v ≠ .null → ls[i]? = some (.val (sm_v b v))
def sm_pr (b : Nat) (L : List Value) : List (Nat × Value) := (List.range L.length).filterMap (fun i => if L.getD i .null = .null then none else some (i, sm_v b (L.getD i .null)))
theorem sm_getD {L : List Value} {i : Nat} {v : Value} (h : L[i]? = some v) : L.getD i .null = v := by
  rw [List.getD_eq_getElem?_getD, h]; rfl
theorem sm_pr_in {b : Nat} {L : List Value} {i : Nat} {v : Value} (h : L[i]? = some v) (hv : v ≠ .null) : (i, sm_v b v) ∈ sm_pr b L := by
  unfold sm_pr
  refine List.mem_filterMap.mpr ⟨i, List.mem_range.mpr (List.getElem?_eq_some_iff.mp h).1, ?_⟩
  rw [sm_getD h, if_neg hv]
theorem sm_pr_has {b : Nat} {ls : Array Slot} {n : Nat} {L : List Value} (h : sm_L b ls n L) : lv_has ls n (sm_pr b L) := by
  refine ⟨h.1, h.2.1, fun q hq => ?_⟩
  obtain ⟨i, hi, e⟩ := List.mem_filterMap.mp hq
  have hi := List.mem_range.mp hi
  by_cases hz : L.getD i .null = .null
  · rw [if_pos hz] at e; cases e
  · rw [if_neg hz] at e
    cases e
    exact h.2.2.2 i _ (by rw [List.getD_eq_getElem?_getD, List.getElem?_eq_getElem hi]; rfl) hz
theorem sm_kl_len (L : List Value) (i : Nat) : (sm_kl L i).length = L.length := by
  cases i with
  | zero => rfl
  | succ j =>
    show (if (L.getD j .null).category = 2 then L.set j .null else L).length = _
    split
    · rw [List.length_set]
    · rfl
theorem sm_kl_at {L : List Value} {i j : Nat} {v : Value} (h : (sm_kl L i)[j]? = some v) (hv : v ≠ .null) : L[j]? = some v ∧ ¬ (j + 1 = i ∧ v.category = 2) := by
  cases i with
  | zero => exact ⟨h, fun q => by omega⟩
  | succ k =>
    have h5 : (if (L.getD k .null).category = 2 then L.set k .null else L)[j]? = some v := h
    clear h
    by_cases hc : (L.getD k .null).category = 2
    · rw [if_pos hc] at h5
      by_cases e : j = k
      · subst e
        have hl : j < L.length := by
          have := (List.getElem?_eq_some_iff.mp h5).1
          rw [List.length_set] at this
          exact this
        rw [List.getElem?_set_self hl] at h5
        exact absurd (Option.some.inj h5).symm hv
      · rw [List.getElem?_set_ne (Ne.symm e)] at h5
        exact ⟨h5, fun q => e (by omega)⟩
    · rw [if_neg hc] at h5
      refine ⟨h5, fun q => ?_⟩
      have e : j = k := by omega
      subst e
      rw [sm_getD h5] at hc
      exact hc q.2
theorem sm_st1 {b : Nat} {ls' : Array Slot} {n i : Nat} {L : List Value} {v : Value} {l' : List (Nat × Value)} (hL : L.length = n) (h : lv_has ls' n l') (hv : (i, sm_v b v) ∈ l') (ho : ∀ (j : Nat) (w : Value), L[j]? = some w → w ≠ .null → j ≠ i → ¬ (j + 1 = i ∧ w.category = 2) → (j, sm_v b w) ∈ l') : sm_L b ls' n (sm_s1 L i v) := by
  refine ⟨h.1, h.2.1, by unfold sm_s1; rw [List.length_set, sm_kl_len, hL], fun j w hj hw => ?_⟩
  unfold sm_s1 at hj
  by_cases e : j = i
  · subst e
    have hl : j < (sm_kl L j).length := by
      have := (List.getElem?_eq_some_iff.mp hj).1
      rw [List.length_set] at this
      exact this
    rw [List.getElem?_set_self hl] at hj
    cases hj
    exact h.2.2 _ hv
  · rw [List.getElem?_set_ne (Ne.symm e)] at hj
    obtain ⟨h1, h2⟩ := sm_kl_at hj hw
    exact h.2.2 _ (ho j w h1 hw e h2)
theorem sm_st2 {b : Nat} {ls' : Array Slot} {n i : Nat} {L : List Value} {v : Value} {l' : List (Nat × Value)} (hL : L.length = n) (h : lv_has ls' n l') (hv : (i, sm_v b v) ∈ l') (ho : ∀ (j : Nat) (w : Value), L[j]? = some w → w ≠ .null → j ≠ i → j ≠ i + 1 → ¬ (j + 1 = i ∧ w.category = 2) → (j, sm_v b w) ∈ l') : sm_L b ls' n (sm_s2 L i v) := by
  refine ⟨h.1, h.2.1, by unfold sm_s2; rw [List.length_set, List.length_set, sm_kl_len, hL], fun j w hj hw => ?_⟩
  unfold sm_s2 at hj
  by_cases e1 : j = i + 1
  · subst e1
    have hl : i + 1 < ((sm_kl L i).set i v).length := by
      have := (List.getElem?_eq_some_iff.mp hj).1
      rw [List.length_set] at this
      exact this
    rw [List.getElem?_set_self hl] at hj
    exact absurd (Option.some.inj hj).symm hw
  · rw [List.getElem?_set_ne (Ne.symm e1)] at hj
    by_cases e : j = i
    · subst e
      have hl : j < (sm_kl L j).length := by
        have := (List.getElem?_eq_some_iff.mp hj).1
        rw [List.length_set] at this
        exact this
      rw [List.getElem?_set_self hl] at hj
      cases hj
      exact h.2.2 _ hv
    · rw [List.getElem?_set_ne (Ne.symm e)] at hj
      obtain ⟨h1, h2⟩ := sm_kl_at hj hw
      exact h.2.2 _ (ho j w h1 hw e e1 h2)
theorem sm_fl1 {b i : Nat} {L : List Value} {v : Value} : ∀ (j : Nat) (w : Value), L[j]? = some w → w ≠ .null → j ≠ i → ¬ (j + 1 = i ∧ w.category = 2) → (j, sm_v b w) ∈ (i, v) :: (sm_pr b L).filter (fun q => !(q.1 == i) && !(q.1 + 1 == i && q.2.category == 2)) := by
  intro j w h hw e hc
  refine List.mem_cons_of_mem _ (List.mem_filter.mpr ⟨sm_pr_in h hw, ?_⟩)
  simp only [sm_v_cat, Bool.and_eq_true, Bool.not_eq_true', beq_eq_false_iff_ne, ne_eq, Bool.and_eq_false_imp, beq_iff_eq]
  exact ⟨e, fun h1 h2 => hc ⟨h1, h2⟩⟩
theorem sm_fl2 {b i : Nat} {L : List Value} {v : Value} : ∀ (j : Nat) (w : Value), L[j]? = some w → w ≠ .null → j ≠ i → j ≠ i + 1 → ¬ (j + 1 = i ∧ w.category = 2) → (j, sm_v b w) ∈ (i, v) :: (sm_pr b L).filter (fun q => !(q.1 == i) && (!(q.1 == i + 1) && !(q.1 + 1 == i && q.2.category == 2))) := by
  intro j w h hw e e1 hc
  refine List.mem_cons_of_mem _ (List.mem_filter.mpr ⟨sm_pr_in h hw, ?_⟩)
  simp only [sm_v_cat, Bool.and_eq_true, Bool.not_eq_true', beq_eq_false_iff_ne, ne_eq, Bool.and_eq_false_imp, beq_iff_eq]
  exact ⟨e, e1, fun h1 h2 => hc ⟨h1, h2⟩⟩
end
section
/-! The rules of the small machine. -/
def sm_ldi (L st : List Value) (i : Nat) : Option (List Value × List Value) := match L[i]? with
  | some (.int x) => some (L, .int x :: st)
  | _ => none
def sm_ldl (L st : List Value) (i : Nat) : Option (List Value × List Value) := match L[i]? with
  | some (.long x) => some (L, .long x :: st)
  | _ => none
def sm_lda (L st : List Value) (i : Nat) : Option (List Value × List Value) := match L[i]? with
  | some (.ref x) => some (L, .ref x :: st)
  | _ => none
def sm_sti (L : List Value) (i : Nat) (v : Value) (st : List Value) : Option (List Value × List Value) := if i < L.length then some (sm_s1 L i v, st) else none
def sm_stl (L : List Value) (i : Nat) (v : Value) (st : List Value) : Option (List Value × List Value) := if i + 1 < L.length then some (sm_s2 L i v, st) else none
def sm_inc (L st : List Value) (i : Nat) (n : Int) : Option (List Value × List Value) := match L[i]? with
  | some (.int x) => some (sm_s1 L i (.int (x + Int32.ofInt n)), st)
  | _ => none
/-- what touches neither heap nor flow -/
def sm_st (I : Instr) (len : Nat) (L st : List Value) : Option (List Value × List Value) := match I, len, st with
  | .iload i, 2, st => sm_ldi L st i
  | .iload_n i, 1, st => sm_ldi L st i
  | .lload i, 2, st => sm_ldl L st i
  | .lload_n i, 1, st => sm_ldl L st i
  | .aload i, 2, st => sm_lda L st i
  | .aload_n i, 1, st => sm_lda L st i
  | .istore i, 2, .int x :: st => sm_sti L i (.int x) st
  | .istore_n i, 1, .int x :: st => sm_sti L i (.int x) st
  | .lstore i, 2, .long x :: st => sm_stl L i (.long x) st
  | .lstore_n i, 1, .long x :: st => sm_stl L i (.long x) st
  | .astore i, 2, .ref x :: st => sm_sti L i (.ref x) st
  | .astore_n i, 1, .ref x :: st => sm_sti L i (.ref x) st
  | .iinc i n, 3, st => sm_inc L st i n
  | .iadd, 1, .int y :: .int x :: st => some (L, .int (x + y) :: st)
  | .isub, 1, .int y :: .int x :: st => some (L, .int (x - y) :: st)
  | .imul, 1, .int y :: .int x :: st => some (L, .int (x * y) :: st)
  | .iand, 1, .int y :: .int x :: st => some (L, .int (x &&& y) :: st)
  | .ior, 1, .int y :: .int x :: st => some (L, .int (x ||| y) :: st)
  | .ixor, 1, .int y :: .int x :: st => some (L, .int (x ^^^ y) :: st)
  | .ishl, 1, .int y :: .int x :: st => some (L, .int (x <<< (y &&& 31)) :: st)
  | .ishr, 1, .int y :: .int x :: st => some (L, .int (x >>> (y &&& 31)) :: st)
  | .iushr, 1, .int y :: .int x :: st => some (L, .int (x.toUInt32 >>> (y.toUInt32 &&& Int32.toUInt32 31)).toInt32 :: st)
  | .ladd, 1, .long y :: .long x :: st => some (L, .long (x + y) :: st)
  | .lsub, 1, .long y :: .long x :: st => some (L, .long (x - y) :: st)
  | .lshl, 1, .int y :: .long x :: st => some (L, .long (x <<< (y.toInt64 &&& 63)) :: st)
  | .lcmp, 1, .long y :: .long x :: st => some (L, .int (lg_cmp x y) :: st)
  | .i2l, 1, .int x :: st => some (L, .long x.toInt64 :: st)
  | .i2b, 1, .int x :: st => some (L, .int x.toInt8.toInt32 :: st)
  | .i2s, 1, .int x :: st => some (L, .int x.toInt16.toInt32 :: st)
  | .dup, 1, .int x :: st => some (L, .int x :: .int x :: st)
  | .dup, 1, .ref x :: st => some (L, .ref x :: .ref x :: st)
  | .dup2, 1, .int x :: .ref y :: st => some (L, .int x :: .ref y :: .int x :: .ref y :: st)
  | .pop, 1, .int _ :: st => some (L, st)
  | _, _, _ => none
def sm_cn (I : Instr) (len : Nat) : Option Value := match I, len with
  | .iconst n, 1 => some (.int (Int32.ofInt n))
  | .bipush n, 2 => some (.int (Int8.ofInt n).toInt32)
  | .sipush n, 3 => some (.int (Int16.ofInt n).toInt32)
  | .lconst n, 1 => some (.long (Int64.ofNat (n : Nat)))
  | _, _ => none
/-- a field of ints, a field of references, by its entry in the pool -/
def sm_FI (own : String) (idx c j : Nat) : Prop := vwCl[c]? = some (sm_cl c) ∧ j < (sm_cl c).2.2 ∧ ((sm_cl c).2.1 j).2.2.1 = "I" ∧ Cond.fieldLink own idx ((sm_cl c).2.1 j).1 ((sm_cl c).2.1 j).2.1 ((sm_cl c).2.1 j).2.2.1 ∈ lw_tbl
def sm_FR (own : String) (idx c j : Nat) : Prop := vwCl[c]? = some (sm_cl c) ∧ j < (sm_cl c).2.2 ∧ ((sm_cl c).2.1 j).2.2.1 ≠ "I" ∧ Cond.fieldLink own idx ((sm_cl c).2.1 j).1 ((sm_cl c).2.1 j).2.1 ((sm_cl c).2.1 j).2.2.1 ∈ lw_tbl
def sm_FF (c j : Nat) : Prop := ((sm_cl c).2.1 j).2.2.2 = true ∧ ∃ ty, parseFieldDescriptor ((sm_cl c).2.1 j).2.2.1 = some ty ∧ ∀ a, narrow ty (.ref a) = .ref a ∧ fits ty (.ref a) = true
/-- a call, by its entry in the pool -/
def sm_LB (M : sm_M) (n : Nat) : Prop := plainName M.1.cls = true ∧ Cond.code M.1 M.2.1 M.2.2.1 M.2.2.2 ∈ lw_tbl ∧ Cond.initialized M.1.cls ∈ lw_tbl ∧ (M.1.cls ≠ "java/lang/invoke/MethodHandle" ∧ M.1.cls ≠ "java/lang/invoke/VarHandle" ∧ (parseMethodDescriptor M.1.desc).map (fun d => d.parameters.length) = some n) ∧ M.2.2.1 ≤ 20
def sm_LV (own : String) (idx : Nat) (M : sm_M) (n : Nat) : Prop := sm_LB M n ∧ Cond.methodLink own idx M.1 ∈ lw_tbl ∧ Cond.instanceMethod M.1 ∈ lw_tbl ∧ Cond.selects M.1.cls M.1 M.1 ∈ lw_tbl
def sm_LS (own : String) (idx : Nat) (M : sm_M) (n : Nat) : Prop := sm_LB M n ∧ Cond.methodLink own idx M.1 ∈ lw_tbl ∧ Cond.static M.1 ∈ lw_tbl
def sm_LI (own : String) (idx : Nat) (M : sm_M) (n : Nat) : Prop := sm_LB M n ∧ Cond.methodLink own idx M.1 ∈ lw_tbl ∧ Cond.instanceMethod M.1 ∈ lw_tbl ∧ M.1.name = "<init>" ∧ M.2.2.2 = none
def sm_LN (own : String) (idx : Nat) (M : sm_M) (n : Nat) : Prop := sm_LB M n ∧ Cond.methodLinkNest own idx M.1 "SnowInns" ∈ lw_tbl ∧ Cond.instanceMethod M.1 ∈ lw_tbl ∧ M.1.name = "<init>" ∧ M.2.2.2 = none
def sm_LC (own : String) (idx c : Nat) : Prop := vwCl[c]? = some (sm_cl c) ∧ Cond.classLink own idx (sm_cl c).1 ∈ lw_tbl ∧ Cond.instantiable (sm_cl c).1 (sm_cl c).2.2 ∈ lw_tbl ∧ Cond.initialized (sm_cl c).1 ∈ lw_tbl
abbrev sm_P : Type := Nat → List Value → List Value → sm_H → Nat → Nat → Prop
abbrev sm_Q : Type := Option Value → sm_H → Prop
abbrev sm_K : Type := Nat → Nat → sm_M → List Value → sm_H → sm_Q → Prop
def sm_cat (st : List Value) : Prop := (st.map (fun v => v.category)).sum ≤ 8
def sm_rule (call : sm_K) (mc ms : Nat) (M : sm_M) (Q : sm_Q) (P : sm_P) (k : Nat) : Prop := match k with
  | 0 => ∀ (pc : Nat) (I : Instr) (len : Nat) (L st : List Value) (h : sm_H) (c s : Nat) (L' st' : List Value), decode M.2.1 pc = .ok (I, len) → sm_st I len L st = some (L', st') → P (pc + len) L' st' h c s → P pc L st h c s
  | 1 => ∀ (pc : Nat) (I : Instr) (len : Nat) (L st : List Value) (h : sm_H) (c s : Nat) (v : Value), decode M.2.1 pc = .ok (I, len) → sm_cn I len = some v → P (pc + len) L (v :: st) h c s → P pc L st h c s
  | 2 => ∀ (pc idx : Nat) (v : Int32) (L st : List Value) (h : sm_H) (c s : Nat), decode M.2.1 pc = .ok (.ldc_w idx, 3) → Cond.constant M.1.cls idx v ∈ lw_tbl → P (pc + 3) L (.int v :: st) h c s → P pc L st h c s
  | 3 => ∀ (pc idx : Nat) (v : Int64) (L st : List Value) (h : sm_H) (c s : Nat), decode M.2.1 pc = .ok (.ldc2_w idx, 3) → Cond.constantLong M.1.cls idx v ∈ lw_tbl → P (pc + 3) L (.long v :: st) h c s → P pc L st h c s
  | 4 => ∀ (pc tgt : Nat) (off : Int) (x : Int32) (L st : List Value) (h : sm_H) (c s : Nat), decode M.2.1 pc = .ok (.ifCond .eq off, 3) → (pc : Int) + off = (tgt : Int) → (x = 0 → P tgt L st h c s) → (¬ x = 0 → P (pc + 3) L st h c s) → P pc L (.int x :: st) h c s
  | 5 => ∀ (pc tgt : Nat) (off : Int) (x : Int32) (L st : List Value) (h : sm_H) (c s : Nat), decode M.2.1 pc = .ok (.ifCond .ne off, 3) → (pc : Int) + off = (tgt : Int) → (¬ x = 0 → P tgt L st h c s) → (x = 0 → P (pc + 3) L st h c s) → P pc L (.int x :: st) h c s
  | 6 => ∀ (pc tgt : Nat) (off : Int) (x : Int32) (L st : List Value) (h : sm_H) (c s : Nat), decode M.2.1 pc = .ok (.ifCond .lt off, 3) → (pc : Int) + off = (tgt : Int) → (x < 0 → P tgt L st h c s) → (¬ x < 0 → P (pc + 3) L st h c s) → P pc L (.int x :: st) h c s
  | 7 => ∀ (pc tgt : Nat) (off : Int) (x : Int32) (L st : List Value) (h : sm_H) (c s : Nat), decode M.2.1 pc = .ok (.ifCond .ge off, 3) → (pc : Int) + off = (tgt : Int) → (0 ≤ x → P tgt L st h c s) → (¬ 0 ≤ x → P (pc + 3) L st h c s) → P pc L (.int x :: st) h c s
  | 8 => ∀ (pc tgt : Nat) (off : Int) (x : Int32) (L st : List Value) (h : sm_H) (c s : Nat), decode M.2.1 pc = .ok (.ifCond .gt off, 3) → (pc : Int) + off = (tgt : Int) → (0 < x → P tgt L st h c s) → (¬ 0 < x → P (pc + 3) L st h c s) → P pc L (.int x :: st) h c s
  | 9 => ∀ (pc tgt : Nat) (off : Int) (x : Int32) (L st : List Value) (h : sm_H) (c s : Nat), decode M.2.1 pc = .ok (.ifCond .le off, 3) → (pc : Int) + off = (tgt : Int) → (x ≤ 0 → P tgt L st h c s) → (¬ x ≤ 0 → P (pc + 3) L st h c s) → P pc L (.int x :: st) h c s
  | 10 => ∀ (pc tgt : Nat) (off : Int) (x y : Int32) (L st : List Value) (h : sm_H) (c s : Nat), decode M.2.1 pc = .ok (.if_icmp .eq off, 3) → (pc : Int) + off = (tgt : Int) → (x = y → P tgt L st h c s) → (¬ x = y → P (pc + 3) L st h c s) → P pc L (.int y :: .int x :: st) h c s
  | 11 => ∀ (pc tgt : Nat) (off : Int) (x y : Int32) (L st : List Value) (h : sm_H) (c s : Nat), decode M.2.1 pc = .ok (.if_icmp .ne off, 3) → (pc : Int) + off = (tgt : Int) → (¬ x = y → P tgt L st h c s) → (x = y → P (pc + 3) L st h c s) → P pc L (.int y :: .int x :: st) h c s
  | 12 => ∀ (pc tgt : Nat) (off : Int) (x y : Int32) (L st : List Value) (h : sm_H) (c s : Nat), decode M.2.1 pc = .ok (.if_icmp .lt off, 3) → (pc : Int) + off = (tgt : Int) → (x < y → P tgt L st h c s) → (¬ x < y → P (pc + 3) L st h c s) → P pc L (.int y :: .int x :: st) h c s
  | 13 => ∀ (pc tgt : Nat) (off : Int) (x y : Int32) (L st : List Value) (h : sm_H) (c s : Nat), decode M.2.1 pc = .ok (.if_icmp .ge off, 3) → (pc : Int) + off = (tgt : Int) → (y ≤ x → P tgt L st h c s) → (¬ y ≤ x → P (pc + 3) L st h c s) → P pc L (.int y :: .int x :: st) h c s
  | 14 => ∀ (pc tgt : Nat) (off : Int) (x y : Int32) (L st : List Value) (h : sm_H) (c s : Nat), decode M.2.1 pc = .ok (.if_icmp .gt off, 3) → (pc : Int) + off = (tgt : Int) → (y < x → P tgt L st h c s) → (¬ y < x → P (pc + 3) L st h c s) → P pc L (.int y :: .int x :: st) h c s
  | 15 => ∀ (pc tgt : Nat) (off : Int) (x y : Int32) (L st : List Value) (h : sm_H) (c s : Nat), decode M.2.1 pc = .ok (.if_icmp .le off, 3) → (pc : Int) + off = (tgt : Int) → (x ≤ y → P tgt L st h c s) → (¬ x ≤ y → P (pc + 3) L st h c s) → P pc L (.int y :: .int x :: st) h c s
  | 16 => ∀ (pc tgt : Nat) (off : Int) (L st : List Value) (h : sm_H) (c s : Nat), decode M.2.1 pc = .ok (.goto off, 3) → (pc : Int) + off = (tgt : Int) → P tgt L st h c s → P pc L st h c s
  | 17 => ∀ (pc tgt len : Nat) (dflt lo hi : Int) (offs : Array Int) (x : Int32) (L st : List Value) (h : sm_H) (c s : Nat), decode M.2.1 pc = .ok (.tableswitch dflt lo hi offs, len) → (x.toInt < lo ∨ hi < x.toInt) → (pc : Int) + dflt = (tgt : Int) → P tgt L st h c s → P pc L (.int x :: st) h c s
  | 18 => ∀ (pc tgt len : Nat) (dflt lo hi off : Int) (offs : Array Int) (x : Int32) (L st : List Value) (h : sm_H) (c s : Nat), decode M.2.1 pc = .ok (.tableswitch dflt lo hi offs, len) → ¬ x.toInt < lo → ¬ hi < x.toInt → offs[(x.toInt - lo).toNat]? = some off → (pc : Int) + off = (tgt : Int) → P tgt L st h c s → P pc L (.int x :: st) h c s
  | 19 => ∀ (pc tgt len : Nat) (dflt off : Int) (ps : Array (Int × Int)) (x : Int32) (L st : List Value) (h : sm_H) (c s : Nat), decode M.2.1 pc = .ok (.lookupswitch dflt ps, len) → (ps.toList.zip (ps.toList.drop 1)).all (fun (a, next) => a.1 < next.1) = true → Op.lookupswitch.offset ps.toList dflt x.toInt = off → (pc : Int) + off = (tgt : Int) → P tgt L st h c s → P pc L (.int x :: st) h c s
  | 20 => ∀ (pc : Nat) (ty : FieldType) (v : Int32) (L : List Value) (h : sm_H) (c s : Nat), decode M.2.1 pc = .ok (.ireturn, 1) → M.2.2.2 = some ty → narrow ty (.int v) = .int v → c ≤ mc → s ≤ ms → Q (some (.int v)) h → P pc L [.int v] h c s
  | 21 => ∀ (pc : Nat) (v : Int64) (L : List Value) (h : sm_H) (c s : Nat), decode M.2.1 pc = .ok (.lreturn, 1) → M.2.2.2 = some .long → c ≤ mc → s ≤ ms → Q (some (.long v)) h → P pc L [.long v] h c s
  | 22 => ∀ (pc : Nat) (L : List Value) (h : sm_H) (c s : Nat), decode M.2.1 pc = .ok (.return_, 1) → M.2.2.2 = none → c ≤ mc → s ≤ ms → Q none h → P pc L [] h c s
  | 23 => ∀ (pc idx c0 j q : Nat) (L st : List Value) (h : sm_H) (c s : Nat), decode M.2.1 pc = .ok (.getfield idx, 3) → sm_FI M.1.cls idx c0 j → q < h.1 → (h.2.1 q).1 = c0 + 3 → P (pc + 3) L (.int (h.2.2.1 q j) :: st) h c s → P pc L (.ref q :: st) h c s
  | 24 => ∀ (pc idx c0 j q r : Nat) (L st : List Value) (h : sm_H) (c s : Nat), decode M.2.1 pc = .ok (.getfield idx, 3) → sm_FR M.1.cls idx c0 j → q < h.1 → (h.2.1 q).1 = c0 + 3 → h.2.2.2 q j = some r → P (pc + 3) L (.ref r :: st) h c s → P pc L (.ref q :: st) h c s
  | 25 => ∀ (pc idx c0 j q : Nat) (x : Int32) (L st : List Value) (h : sm_H) (c s : Nat), decode M.2.1 pc = .ok (.putfield idx, 3) → sm_FI M.1.cls idx c0 j → ((sm_cl c0).2.1 j).2.2.2 = false → q < h.1 → (h.2.1 q).1 = c0 + 3 → P (pc + 3) L st (sm_si h q j x) c s → P pc L (.int x :: .ref q :: st) h c s
  | 26 => ∀ (pc idx c0 j q : Nat) (x : Int32) (L st : List Value) (h : sm_H) (c s : Nat), decode M.2.1 pc = .ok (.putfield idx, 3) → sm_FI M.1.cls idx c0 j → ((sm_cl c0).2.1 j).2.2.2 = true → M.1.name = "<init>" → ((sm_cl c0).2.1 j).1 = M.1.cls → q < h.1 → (h.2.1 q).1 = c0 + 3 → P (pc + 3) L st (sm_si h q j x) c s → P pc L (.int x :: .ref q :: st) h c s
  | 27 => ∀ (pc idx c0 j q r : Nat) (L st : List Value) (h : sm_H) (c s : Nat), decode M.2.1 pc = .ok (.putfield idx, 3) → sm_FR M.1.cls idx c0 j → sm_FF c0 j → M.1.name = "<init>" → ((sm_cl c0).2.1 j).1 = M.1.cls → q < h.1 → (h.2.1 q).1 = c0 + 3 → P (pc + 3) L st (sm_sr h q j (some r)) c s → P pc L (.ref r :: .ref q :: st) h c s
  | 28 => ∀ (pc q n j : Nat) (i : Int32) (L st : List Value) (h : sm_H) (c s : Nat), decode M.2.1 pc = .ok (.iaload, 1) → q < h.1 → h.2.1 q = (0, n) → vp_in i n → i.toNatClampNeg = j → P (pc + 1) L (.int (h.2.2.1 q j) :: st) h c s → P pc L (.int i :: .ref q :: st) h c s
  | 29 => ∀ (pc q n j : Nat) (i x : Int32) (L st : List Value) (h : sm_H) (c s : Nat), decode M.2.1 pc = .ok (.iastore, 1) → q < h.1 → h.2.1 q = (0, n) → vp_in i n → i.toNatClampNeg = j → P (pc + 1) L st (sm_si h q j x) c s → P pc L (.int x :: .int i :: .ref q :: st) h c s
  | 30 => ∀ (pc q n r : Nat) (i : Int32) (L st : List Value) (h : sm_H) (c s : Nat), decode M.2.1 pc = .ok (.aaload, 1) → q < h.1 → h.2.1 q = (1, n) → vp_in i n → h.2.2.2 q i.toNatClampNeg = some r → P (pc + 1) L (.ref r :: st) h c s → P pc L (.int i :: .ref q :: st) h c s
  | 31 => ∀ (pc q n r : Nat) (i : Int32) (L st : List Value) (h : sm_H) (c s : Nat), decode M.2.1 pc = .ok (.aaload, 1) → q < h.1 → h.2.1 q = (2, n) → vp_in i n → h.2.2.2 q i.toNatClampNeg = some r → P (pc + 1) L (.ref r :: st) h c s → P pc L (.int i :: .ref q :: st) h c s
  | 32 => ∀ (pc q n r : Nat) (i : Int32) (L st : List Value) (h : sm_H) (c s : Nat), decode M.2.1 pc = .ok (.aastore, 1) → q < h.1 → h.2.1 q = (2, n) → vp_in i n → r < h.1 → (h.2.1 r).1 = 6 → P (pc + 1) L st (sm_sr h q i.toNatClampNeg (some r)) c s → P pc L (.ref r :: .int i :: .ref q :: st) h c s
  | 33 => ∀ (pc idx c0 : Nat) (L st : List Value) (h : sm_H) (c s : Nat), decode M.2.1 pc = .ok (.new idx, 3) → sm_LC M.1.cls idx c0 → c + 1 ≤ mc → s + (sm_cl c0).2.2 ≤ ms → P (pc + 3) L (.ref h.1 :: st) (sm_nw h 1 (fun _ => (c0 + 3, 0)) (fun _ _ => none)) (c + 1) (s + (sm_cl c0).2.2) → P pc L st h c s
  | 34 => ∀ (pc N : Nat) (n : Int32) (L st : List Value) (h : sm_H) (c s : Nat), decode M.2.1 pc = .ok (.newarray .int, 2) → ¬ n < 0 → n.toNatClampNeg = N → N ≤ 1000 → c + 1 ≤ mc → s + N ≤ ms → P (pc + 2) L (.ref h.1 :: st) (sm_nw h 1 (fun _ => (0, N)) (fun _ _ => none)) (c + 1) (s + N) → P pc L (.int n :: st) h c s
  | 35 => ∀ (pc idx N : Nat) (n : Int32) (L st : List Value) (h : sm_H) (c s : Nat), decode M.2.1 pc = .ok (.anewarray idx, 3) → Cond.classLink M.1.cls idx "SnowInns$Sheet" ∈ lw_tbl → ¬ n < 0 → n.toNatClampNeg = N → N ≤ 1000 → c + 1 ≤ mc → s + N ≤ ms → P (pc + 3) L (.ref h.1 :: st) (sm_nw h 1 (fun _ => (2, N)) (fun _ _ => none)) (c + 1) (s + N) → P pc L (.int n :: st) h c s
  | 36 => ∀ (pc idx N K : Nat) (n k : Int32) (L st : List Value) (h : sm_H) (c s : Nat), decode M.2.1 pc = .ok (.multianewarray idx 2, 4) → Cond.classLink M.1.cls idx "[[I" ∈ lw_tbl → ¬ n < 0 → n.toNatClampNeg = N → N ≤ 1000 → ¬ k < 0 → k.toNatClampNeg = K → K ≤ 1000 → c + (1 + N) ≤ mc → s + (N + N * K) ≤ ms → P (pc + 4) L (.ref h.1 :: st) (sm_nw h (1 + N) (fun i => if i = 0 then (1, N) else (0, K)) (fun i j => if i = 0 ∧ j < N then some (h.1 + 1 + j) else none)) (c + 1 + N) (s + N + N * K) → P pc L (.int k :: .int n :: st) h c s
  | 37 => ∀ (pc idx c0 q mc' ms' : Nat) (M' : sm_M) (As L st : List Value) (h : sm_H) (c s : Nat), decode M.2.1 pc = .ok (.invokevirtual idx, 3) → sm_LV M.1.cls idx M' As.length → q < h.1 → (h.2.1 q).1 = c0 + 3 → vwCl[c0]? = some (sm_cl c0) → (sm_cl c0).1 = M'.1.cls → sm_cat st → c + mc' ≤ mc → s + ms' ≤ ms → call mc' ms' M' (.ref q :: As) h (fun r h' => P (pc + 3) L (r.toList ++ st) h' (c + mc') (s + ms')) → P pc L (As.reverse ++ .ref q :: st) h c s
  | 38 => ∀ (pc idx mc' ms' : Nat) (M' : sm_M) (As L st : List Value) (h : sm_H) (c s : Nat), decode M.2.1 pc = .ok (.invokestatic idx, 3) → sm_LS M.1.cls idx M' As.length → sm_cat st → c + mc' ≤ mc → s + ms' ≤ ms → call mc' ms' M' As h (fun r h' => P (pc + 3) L (r.toList ++ st) h' (c + mc') (s + ms')) → P pc L (As.reverse ++ st) h c s
  | 39 => ∀ (pc idx q mc' ms' : Nat) (M' : sm_M) (As L st : List Value) (h : sm_H) (c s : Nat), decode M.2.1 pc = .ok (.invokespecial idx, 3) → sm_LI M.1.cls idx M' As.length → sm_cat st → c + mc' ≤ mc → s + ms' ≤ ms → call mc' ms' M' (.ref q :: As) h (fun r h' => P (pc + 3) L (r.toList ++ st) h' (c + mc') (s + ms')) → P pc L (As.reverse ++ .ref q :: st) h c s
  | 40 => ∀ (pc idx q mc' ms' : Nat) (M' : sm_M) (As L st : List Value) (h : sm_H) (c s : Nat), decode M.2.1 pc = .ok (.invokespecial idx, 3) → sm_LN M.1.cls idx M' As.length → sm_cat st → c + mc' ≤ mc → s + ms' ≤ ms → call mc' ms' M' (.ref q :: As) h (fun r h' => P (pc + 3) L (r.toList ++ st) h' (c + mc') (s + ms')) → P pc L (As.reverse ++ .ref q :: st) h c s
  | 41 => ∀ (pc idx q : Nat) (L st : List Value) (h : sm_H) (c s : Nat), decode M.2.1 pc = .ok (.invokespecial idx, 3) → Cond.methodLink M.1.cls idx objectInit ∈ lw_tbl → sm_cat st → P (pc + 3) L st h c s → P pc L (.ref q :: st) h c s
  | 42 => ∀ (pc idx : Nat) (x y : Int32) (L st : List Value) (h : sm_H) (c s : Nat), decode M.2.1 pc = .ok (.invokestatic idx, 3) → Cond.methodLink M.1.cls idx Lib.Math.min.name ∈ lw_tbl → sm_cat st → c ≤ mc → s ≤ ms → P (pc + 3) L (.int (if y < x then y else x) :: st) h c s → P pc L (.int y :: .int x :: st) h c s
  | 43 => ∀ (pc idx : Nat) (x y : Int32) (L st : List Value) (h : sm_H) (c s : Nat), decode M.2.1 pc = .ok (.invokestatic idx, 3) → Cond.methodLink M.1.cls idx Lib.Math.max.name ∈ lw_tbl → sm_cat st → c ≤ mc → s ≤ ms → P (pc + 3) L (.int (if x < y then y else x) :: st) h c s → P pc L (.int y :: .int x :: st) h c s
  | 44 => ∀ (pc idx q0 q1 n0 n1 : Nat) (sp dp n : Int32) (L st : List Value) (h : sm_H) (c s : Nat), decode M.2.1 pc = .ok (.invokestatic idx, 3) → Cond.methodLink M.1.cls idx arraycopyName ∈ lw_tbl → q0 < h.1 → q1 < h.1 → h.2.1 q0 = (0, n0) → h.2.1 q1 = (0, n1) → ¬ sp < 0 → ¬ dp < 0 → ¬ n < 0 → sp.toNatClampNeg + n.toNatClampNeg ≤ n0 → dp.toNatClampNeg + n.toNatClampNeg ≤ n1 → sm_cat st → P (pc + 3) L st (sm_sw h q1 (va_cpy (h.2.2.1 q0) (h.2.2.1 q1) sp.toNatClampNeg dp.toNatClampNeg n.toNatClampNeg)) c s → P pc L (.int n :: .int dp :: .ref q1 :: .int sp :: .ref q0 :: st) h c s
  | 45 => ∀ (pc : Nat) (x y : Int32) (L st : List Value) (h : sm_H) (c s : Nat), decode M.2.1 pc = .ok (.idiv, 1) → ¬ y = 0 → P (pc + 1) L (.int (x / y) :: st) h c s → P pc L (.int y :: .int x :: st) h c s
  | 46 => ∀ (pc : Nat) (x y : Int32) (L st : List Value) (h : sm_H) (c s : Nat), decode M.2.1 pc = .ok (.irem, 1) → ¬ y = 0 → P (pc + 1) L (.int (x - x / y * y) :: st) h c s → P pc L (.int y :: .int x :: st) h c s
  | 47 => ∀ (pc : Nat) (x y : Int64) (L st : List Value) (h : sm_H) (c s : Nat), decode M.2.1 pc = .ok (.ldiv, 1) → ¬ y = 0 → P (pc + 1) L (.long (x / y) :: st) h c s → P pc L (.long y :: .long x :: st) h c s
  | 48 => ∀ (pc : Nat) (x y : Int64) (L st : List Value) (h : sm_H) (c s : Nat), decode M.2.1 pc = .ok (.lrem, 1) → ¬ y = 0 → P (pc + 1) L (.long (x - x / y * y) :: st) h c s → P pc L (.long y :: .long x :: st) h c s
  | _ => True
def sm_wp (call : sm_K) (mc ms : Nat) (M : sm_M) (Q : sm_Q) (pc : Nat) (L st : List Value) (h : sm_H) (c s : Nat) : Prop := ∀ P : sm_P, (∀ k : Nat, sm_rule call mc ms M Q P k) → P pc L st h c s
def sm_fl (args : List Value) : List Value := args.flatMap (fun v => if v.category = 2 then [v, .null] else [v])
def sm_en (args : List Value) (n : Nat) : List Value := sm_fl args ++ List.replicate (n - (sm_fl args).length) .null
/-- the method M returns, at a depth of d calls, with at most mc new cells of ms slots, as Q says -/
def sm_c (d : Nat) : sm_K := match d with
  | 0 => fun _ _ _ _ _ _ => False
  | d + 1 => fun mc ms M args h Q => (sm_fl args).length ≤ M.2.2.1 ∧ sm_wp (sm_c d) mc ms M Q 0 (sm_en args M.2.2.1) [] h 0 0
end
section
/-! What the small machine says, the machine does. -/
def sm_tb : List Cond := lw_tbl.filter goodWord
theorem sm_tbm {w : Cond} (h : w ∈ lw_tbl) (hg : goodWord w = true) : w ∈ sm_tb := List.mem_filter.mpr ⟨h, hg⟩
theorem sm_goodIn {y : Cond} {Ts : List Cond} (hy : y ∈ lw_tbl) (hg : goodWord y = true) (hT : ∀ w ∈ sm_tb, w ∈ Ts) : GoodIn Ts (y :: sm_tb) := fun w hw => by
  have h : w ∈ sm_tb := (List.mem_cons.mp hw).elim (fun e => by rw [e]; exact sm_tbm hy hg) id
  exact ⟨hT w h, good_of_word (List.mem_filter.mp h).2⟩
/-- the words that are no good words, and are wanted all the same -/
def sm_nst : List Cond := [.methodLinkNest "SnowInns" 19 ⟨"SnowInns$Ridge", "<init>", "()V"⟩ "SnowInns", .methodLinkNest "SnowInns" 38 ⟨"SnowInns$Readings", "<init>", "()V"⟩ "SnowInns", .methodLinkNest "SnowInns$Trials" 11 ⟨"SnowInns$Ridge", "<init>", "()V"⟩ "SnowInns", .methodLinkNest "SnowInns" 59 ⟨"SnowInns$Sheet", "<init>", "()V"⟩ "SnowInns"]
def sm_AOA (U : State) : Prop := (Cond.arrayOver (.array .int)).before #[] U = true
def sm_N (U : State) : Prop := (∀ w ∈ sm_nst, va_Nw w U) ∧ va_AO "SnowInns$Sheet" U ∧ sm_AOA U
theorem sm_nst_form : ∀ w ∈ sm_nst, ∃ a i x h, w = .methodLinkNest a i x h := by
  intro w hw
  simp only [sm_nst, List.mem_cons, List.not_mem_nil, or_false] at hw
  rcases hw with rfl | rfl | rfl | rfl <;> exact ⟨_, _, _, _, rfl⟩
theorem sm_N.warm {u U : State} (hW : u.WarmedH U.vm) (h : sm_N u) : sm_N U := by
  refine ⟨fun w hw => ?_, h.2.1.moved hW.alike, ?_⟩
  · obtain ⟨a, i, x, g, rfl⟩ := sm_nst_form w hw
    exact va_Nw.warmM hW (h.1 _ hw)
  · exact arrayOver_alikeB hW.alike h.2.2
theorem sm_N.same {u U : State} (hW : u.vm = U.vm) (h : sm_N u) : sm_N U := by
  refine ⟨fun w hw => ?_, h.2.1.moved (by rw [hW]; exact Vm.Alike.refl _), arrayOver_alikeB (by rw [hW]; exact Vm.Alike.refl _) h.2.2⟩
  obtain ⟨a, i, x, g, rfl⟩ := sm_nst_form w hw
  exact (h.1 _ hw).same rfl hW
abbrev sm_ty (cs : ClassId × ClassId × ClassId) : List (ClassId × FieldType) := [(cs.1, .int), (cs.2.1, .array .int), (cs.2.2, .object "SnowInns$Sheet")]
def sm_Pre (b : Nat) (D : va_G) (cs : ClassId × ClassId × ClassId) (args : List Value) (h : sm_H) : Array Value → State → Prop := va_Pc (args.map (sm_v b)) (fun U => sm_W b D cs h U.heap ∧ va_K D vwCl (sm_ty cs) U ∧ sm_N U)
def sm_Post (b : Nat) (D : va_G) (cs : ClassId × ClassId × ClassId) (Q : sm_Q) : Array Value → State → Outcome → State → Prop := fun _ st oc t => (∃ (r : Option Value) (h' : sm_H), oc = .returned (r.map (sm_v b)) ∧ Q r h' ∧ sm_W b D cs h' t.heap) ∧ va_F (sm_A b) st t
theorem sm_blind (b : Nat) (D : va_G) (cs : ClassId × ClassId × ClassId) (args : List Value) (h : sm_H) : FrameBlind (sm_Pre b D cs args h) := fun a U g mk q => by
  obtain ⟨q0, q1, q2, q3⟩ := q
  exact ⟨q0, q1, va_K.moved (u := U) (U := U.calling g mk a) (Vm.Alike.refl U.vm) q2, sm_N.same (u := U) (U := U.calling g mk a) rfl q3⟩
abbrev sm_rm (d mc ms : Nat) : Room := { frames := d, cells := mc, slots := ms, locals := 40 * d }
def sm_So (l : Launch) (b : Nat) (D : va_G) (cs : ClassId × ClassId × ClassId) (d : Nat) : Prop := ∀ (mc ms : Nat) (M : sm_M) (args : List Value) (h : sm_H) (Q : sm_Q), plainName M.1.cls = true → sm_c d mc ms M args h Q → Met l M.1 (Cond.code M.1 M.2.1 M.2.2.1 M.2.2.2 :: sm_tb) (sm_rm d mc ms) (sm_Pre b D cs args h) (sm_Post b D cs Q) mc ms (sm_A b)
section SMS
variable {p : Program} {l : Launch} {e : Env} {R : Room} {s : State} {m : MethodId} {args : Array Value} {below : List Frame} {meth : Method} {c : Code} {Qf : State → Prop} {b : Nat} {D : va_G} {cs : ClassId × ClassId × ClassId} {M : sm_M} {d mc ms : Nat} {Q : sm_Q}
def sm_X (b : Nat) (D : va_G) (cs : ClassId × ClassId × ClassId) (p : Program) (R : Room) (s : State) (m : MethodId) (args : Array Value) (meth : Method) (c : Code) (M : sm_M) (d mc ms : Nat) : Prop :=
  p.tables.exec = Jvm.exec ∧ c.code = M.2.1 ∧ c.maxLocals = M.2.2.1 ∧ s.vm.findClass M.1.cls = some m.cls ∧ (∀ w ∈ lw_tbl, goodWord w = true → w.before args s = true) ∧ (va_K D vwCl (sm_ty cs) s ∧ sm_N s) ∧ meth.name = M.1.name ∧ (d + 1 ≤ R.frames ∧ 40 * (d + 1) ≤ R.locals ∧ R.cells = mc ∧ R.slots = ms) ∧ b ≤ s.heap.size
def sm_P0 (p : Program) (l : Launch) (e : Env) (R : Room) (s : State) (m : MethodId) (args : Array Value) (below : List Frame) (meth : Method) (c : Code) (Qf : State → Prop) (b : Nat) (D : va_G) (cs : ClassId × ClassId × ClassId) (M : sm_M) : sm_P := fun pc L st h k n =>
  ∀ (H : Heap) (locs : List Loc) (ls : Array Slot), sm_W b D cs h H → va_S (sm_A b) s.heap H locs → sm_L b ls M.2.2.1 L → W p l e R s m args below meth c H locs k n Qf (F0 m pc ls (st.map (sm_v b)))
theorem sm_Lat {ls : Array Slot} {n i : Nat} {L : List Value} {v : Value} (h : sm_L b ls n L) (hi : L[i]? = some v) (hv : v ≠ .null) : ls[i]? = some (.val (sm_v b v)) := h.2.2.2 i v hi hv
theorem sm_ldi_eq {L st L' st' : List Value} {i : Nat} (h : sm_ldi L st i = some (L', st')) : ∃ x, L[i]? = some (.int x) ∧ L' = L ∧ st' = .int x :: st := by
  unfold sm_ldi at h
  split at h
  · rename_i x hx
    cases h
    exact ⟨x, hx, rfl, rfl⟩
  · cases h
theorem sm_ldl_eq {L st L' st' : List Value} {i : Nat} (h : sm_ldl L st i = some (L', st')) : ∃ x, L[i]? = some (.long x) ∧ L' = L ∧ st' = .long x :: st := by
  unfold sm_ldl at h
  split at h
  · rename_i x hx
    cases h
    exact ⟨x, hx, rfl, rfl⟩
  · cases h
theorem sm_lda_eq {L st L' st' : List Value} {i : Nat} (h : sm_lda L st i = some (L', st')) : ∃ x, L[i]? = some (.ref x) ∧ L' = L ∧ st' = .ref x :: st := by
  unfold sm_lda at h
  split at h
  · rename_i x hx
    cases h
    exact ⟨x, hx, rfl, rfl⟩
  · cases h
theorem sm_sti_eq {L st L' st' : List Value} {i : Nat} {v : Value} (h : sm_sti L i v st = some (L', st')) : i < L.length ∧ L' = sm_s1 L i v ∧ st' = st := by
  unfold sm_sti at h
  split at h
  · cases h
    exact ⟨by assumption, rfl, rfl⟩
  · cases h
theorem sm_stl_eq {L st L' st' : List Value} {i : Nat} {v : Value} (h : sm_stl L i v st = some (L', st')) : i + 1 < L.length ∧ L' = sm_s2 L i v ∧ st' = st := by
  unfold sm_stl at h
  split at h
  · cases h
    exact ⟨by assumption, rfl, rfl⟩
  · cases h
theorem sm_inc_eq {L st L' st' : List Value} {i : Nat} {n : Int} (h : sm_inc L st i n = some (L', st')) : ∃ x, L[i]? = some (.int x) ∧ L' = sm_s1 L i (.int (x + Int32.ofInt n)) ∧ st' = st := by
  unfold sm_inc at h
  split at h
  · rename_i x hx
    cases h
    exact ⟨x, hx, rfl, rfl⟩
  · cases h
set_option maxHeartbeats 4000000 in
theorem sm_r0 (X : sm_X b D cs p R s m args meth c M d mc ms) : sm_rule (sm_c d) mc ms M Q (sm_P0 p l e R s m args below meth c Qf b D cs M) 0 := by
  obtain ⟨hx, hb, -⟩ := X
  intro pc I len L st h k n L' st' hd hs hk H locs ls hW hS hl
  unfold sm_st at hs
  split at hs
  · obtain ⟨x, h1, rfl, rfl⟩ := sm_ldi_eq hs
    exact lv_iload hx hb hd (sm_Lat hl h1 (by simp)) (hk H locs ls hW hS hl)
  · obtain ⟨x, h1, rfl, rfl⟩ := sm_ldi_eq hs
    exact lv_iload_n hx hb hd rfl (sm_Lat hl h1 (by simp)) (hk H locs ls hW hS hl)
  · obtain ⟨x, h1, rfl, rfl⟩ := sm_ldl_eq hs
    exact lv_lload hx hb hd (sm_Lat hl h1 (by simp)) (hk H locs ls hW hS hl)
  · obtain ⟨x, h1, rfl, rfl⟩ := sm_ldl_eq hs
    exact lv_lload_n hx hb hd rfl (sm_Lat hl h1 (by simp)) (hk H locs ls hW hS hl)
  · obtain ⟨x, h1, rfl, rfl⟩ := sm_lda_eq hs
    exact lv_aload hx hb hd (sm_Lat hl h1 (by simp)) (hk H locs ls hW hS hl)
  · obtain ⟨x, h1, rfl, rfl⟩ := sm_lda_eq hs
    exact lv_aload_n hx hb hd rfl (sm_Lat hl h1 (by simp)) (hk H locs ls hW hS hl)
  · obtain ⟨h1, rfl, rfl⟩ := sm_sti_eq hs
    exact lv_istore hx hb hd (sm_pr_has hl) (by rw [← hl.2.2.1]; exact h1) rfl (fun ls' hl' => hk H locs ls' hW hS (sm_st1 hl.2.2.1 hl' List.mem_cons_self sm_fl1))
  · obtain ⟨h1, rfl, rfl⟩ := sm_sti_eq hs
    exact lv_istore_n hx hb hd rfl (sm_pr_has hl) (by rw [← hl.2.2.1]; exact h1) rfl (fun ls' hl' => hk H locs ls' hW hS (sm_st1 hl.2.2.1 hl' List.mem_cons_self sm_fl1))
  · obtain ⟨h1, rfl, rfl⟩ := sm_stl_eq hs
    exact lv_lstore hx hb hd (sm_pr_has hl) (by rw [← hl.2.2.1]; exact h1) rfl (fun ls' hl' => hk H locs ls' hW hS (sm_st2 hl.2.2.1 hl' List.mem_cons_self sm_fl2))
  · obtain ⟨h1, rfl, rfl⟩ := sm_stl_eq hs
    exact lv_lstore_n hx hb hd rfl (sm_pr_has hl) (by rw [← hl.2.2.1]; exact h1) rfl (fun ls' hl' => hk H locs ls' hW hS (sm_st2 hl.2.2.1 hl' List.mem_cons_self sm_fl2))
  · obtain ⟨h1, rfl, rfl⟩ := sm_sti_eq hs
    exact lv_astore hx hb hd (sm_pr_has hl) (by rw [← hl.2.2.1]; exact h1) rfl (fun ls' hl' => hk H locs ls' hW hS (sm_st1 hl.2.2.1 hl' List.mem_cons_self sm_fl1))
  · obtain ⟨h1, rfl, rfl⟩ := sm_sti_eq hs
    exact lv_astore_n hx hb hd rfl (sm_pr_has hl) (by rw [← hl.2.2.1]; exact h1) rfl (fun ls' hl' => hk H locs ls' hW hS (sm_st1 hl.2.2.1 hl' List.mem_cons_self sm_fl1))
  · obtain ⟨x, h1, rfl, rfl⟩ := sm_inc_eq hs
    obtain ⟨k0, hk0⟩ := List.getElem?_of_mem (sm_pr_in (b := b) h1 (by simp))
    exact lv_iinc hx hb hd (sm_pr_has hl) hk0 rfl (by rw [← hl.2.2.1]; exact (List.getElem?_eq_some_iff.mp h1).1) rfl (fun ls' hl' => hk H locs ls' hW hS (sm_st1 hl.2.2.1 hl' List.mem_cons_self sm_fl1))
  · cases hs; exact lv_iadd hx hb hd (hk H locs ls hW hS hl)
  · cases hs; exact lv_isub hx hb hd (hk H locs ls hW hS hl)
  · cases hs; exact lv_imul hx hb hd (hk H locs ls hW hS hl)
  · cases hs; exact lv_iand hx hb hd (hk H locs ls hW hS hl)
  · cases hs; exact lv_ior hx hb hd (hk H locs ls hW hS hl)
  · cases hs; exact lv_ixor hx hb hd (hk H locs ls hW hS hl)
  · cases hs; exact lv_ishl hx hb hd (hk H locs ls hW hS hl)
  · cases hs; exact lv_ishr hx hb hd (hk H locs ls hW hS hl)
  · cases hs; exact lv_iushr hx hb hd rfl (hk H locs ls hW hS hl)
  · cases hs; exact lv_ladd hx hb hd (hk H locs ls hW hS hl)
  · cases hs; exact lv_lsub hx hb hd (hk H locs ls hW hS hl)
  · cases hs; exact lv_lshl hx hb hd rfl (hk H locs ls hW hS hl)
  · cases hs; exact W.lcmp hx hb hd (hk H locs ls hW hS hl)
  · cases hs; exact lv_i2l hx hb hd rfl (hk H locs ls hW hS hl)
  · cases hs; exact lv_i2b hx hb hd rfl (hk H locs ls hW hS hl)
  · cases hs; exact lv_i2s hx hb hd rfl (hk H locs ls hW hS hl)
  · cases hs; exact lv_dup hx hb hd rfl (hk H locs ls hW hS hl)
  · cases hs; exact lv_dup hx hb hd rfl (hk H locs ls hW hS hl)
  · cases hs; exact lv_dup2_11 hx hb hd rfl rfl (hk H locs ls hW hS hl)
  · cases hs; exact lv_pop hx hb hd rfl (hk H locs ls hW hS hl)
  · cases hs
set_option maxHeartbeats 4000000 in
theorem sm_r1 (X : sm_X b D cs p R s m args meth c M d mc ms) : sm_rule (sm_c d) mc ms M Q (sm_P0 p l e R s m args below meth c Qf b D cs M) 1 := by
  obtain ⟨hx, hb, -⟩ := X
  intro pc I len L st h k n v hd hs hk H locs ls hW hS hl
  unfold sm_cn at hs
  split at hs
  · cases hs; exact lv_iconst hx hb hd rfl (hk H locs ls hW hS hl)
  · cases hs; exact lv_bipush hx hb hd rfl (hk H locs ls hW hS hl)
  · cases hs; exact lv_sipush hx hb hd rfl (hk H locs ls hW hS hl)
  · cases hs; exact lv_lconst hx hb hd rfl (hk H locs ls hW hS hl)
  · cases hs
theorem sm_r2 (X : sm_X b D cs p R s m args meth c M d mc ms) : sm_rule (sm_c d) mc ms M Q (sm_P0 p l e R s m args below meth c Qf b D cs M) 2 := by
  obtain ⟨hx, hb, -, ho, ht, -⟩ := X
  intro pc idx v L st h k n hd hv hk H locs ls hW hS hl
  exact lv_ldcw hx hb ho (ht _ hv rfl) hd (hk H locs ls hW hS hl)
theorem sm_r3 (X : sm_X b D cs p R s m args meth c M d mc ms) : sm_rule (sm_c d) mc ms M Q (sm_P0 p l e R s m args below meth c Qf b D cs M) 3 := by
  obtain ⟨hx, hb, -, ho, ht, -⟩ := X
  intro pc idx v L st h k n hd hv hk H locs ls hW hS hl
  exact W.ldc2 hx hb ho (ht _ hv rfl) rfl hd (hk H locs ls hW hS hl)
theorem sm_r4 (X : sm_X b D cs p R s m args meth c M d mc ms) : sm_rule (sm_c d) mc ms M Q (sm_P0 p l e R s m args below meth c Qf b D cs M) 4 := by
  obtain ⟨hx, hb, -⟩ := X
  intro pc tgt off x L st h k n hd ht h1 h2 H locs ls hW hS hl
  exact lv_if_eq hx hb hd ht (fun q => h1 q H locs ls hW hS hl) (fun q => h2 q H locs ls hW hS hl)
theorem sm_r10 (X : sm_X b D cs p R s m args meth c M d mc ms) : sm_rule (sm_c d) mc ms M Q (sm_P0 p l e R s m args below meth c Qf b D cs M) 10 := by
  obtain ⟨hx, hb, -⟩ := X
  intro pc tgt off x y L st h k n hd ht h1 h2 H locs ls hW hS hl
  exact lv_icmp_eq hx hb hd ht (fun q => h1 q H locs ls hW hS hl) (fun q => h2 q H locs ls hW hS hl)
theorem sm_r5 (X : sm_X b D cs p R s m args meth c M d mc ms) : sm_rule (sm_c d) mc ms M Q (sm_P0 p l e R s m args below meth c Qf b D cs M) 5 := by
  obtain ⟨hx, hb, -⟩ := X
  intro pc tgt off x L st h k n hd ht h1 h2 H locs ls hW hS hl
  exact lv_if_ne hx hb hd ht (fun q => h1 q H locs ls hW hS hl) (fun q => h2 q H locs ls hW hS hl)
theorem sm_r11 (X : sm_X b D cs p R s m args meth c M d mc ms) : sm_rule (sm_c d) mc ms M Q (sm_P0 p l e R s m args below meth c Qf b D cs M) 11 := by
  obtain ⟨hx, hb, -⟩ := X
  intro pc tgt off x y L st h k n hd ht h1 h2 H locs ls hW hS hl
  exact lv_icmp_ne hx hb hd ht (fun q => h1 q H locs ls hW hS hl) (fun q => h2 q H locs ls hW hS hl)
theorem sm_r6 (X : sm_X b D cs p R s m args meth c M d mc ms) : sm_rule (sm_c d) mc ms M Q (sm_P0 p l e R s m args below meth c Qf b D cs M) 6 := by
  obtain ⟨hx, hb, -⟩ := X
  intro pc tgt off x L st h k n hd ht h1 h2 H locs ls hW hS hl
  exact lv_if_lt hx hb hd ht (fun q => h1 q H locs ls hW hS hl) (fun q => h2 q H locs ls hW hS hl)
theorem sm_r12 (X : sm_X b D cs p R s m args meth c M d mc ms) : sm_rule (sm_c d) mc ms M Q (sm_P0 p l e R s m args below meth c Qf b D cs M) 12 := by
  obtain ⟨hx, hb, -⟩ := X
  intro pc tgt off x y L st h k n hd ht h1 h2 H locs ls hW hS hl
  exact lv_icmp_lt hx hb hd ht (fun q => h1 q H locs ls hW hS hl) (fun q => h2 q H locs ls hW hS hl)
theorem sm_r7 (X : sm_X b D cs p R s m args meth c M d mc ms) : sm_rule (sm_c d) mc ms M Q (sm_P0 p l e R s m args below meth c Qf b D cs M) 7 := by
  obtain ⟨hx, hb, -⟩ := X
  intro pc tgt off x L st h k n hd ht h1 h2 H locs ls hW hS hl
  exact lv_if_ge hx hb hd ht (fun q => h1 q H locs ls hW hS hl) (fun q => h2 q H locs ls hW hS hl)
theorem sm_r13 (X : sm_X b D cs p R s m args meth c M d mc ms) : sm_rule (sm_c d) mc ms M Q (sm_P0 p l e R s m args below meth c Qf b D cs M) 13 := by
  obtain ⟨hx, hb, -⟩ := X
  intro pc tgt off x y L st h k n hd ht h1 h2 H locs ls hW hS hl
  exact lv_icmp_ge hx hb hd ht (fun q => h1 q H locs ls hW hS hl) (fun q => h2 q H locs ls hW hS hl)
theorem sm_r8 (X : sm_X b D cs p R s m args meth c M d mc ms) : sm_rule (sm_c d) mc ms M Q (sm_P0 p l e R s m args below meth c Qf b D cs M) 8 := by
  obtain ⟨hx, hb, -⟩ := X
  intro pc tgt off x L st h k n hd ht h1 h2 H locs ls hW hS hl
  exact lv_if_gt hx hb hd ht (fun q => h1 q H locs ls hW hS hl) (fun q => h2 q H locs ls hW hS hl)
theorem sm_r14 (X : sm_X b D cs p R s m args meth c M d mc ms) : sm_rule (sm_c d) mc ms M Q (sm_P0 p l e R s m args below meth c Qf b D cs M) 14 := by
  obtain ⟨hx, hb, -⟩ := X
  intro pc tgt off x y L st h k n hd ht h1 h2 H locs ls hW hS hl
  exact lv_icmp_gt hx hb hd ht (fun q => h1 q H locs ls hW hS hl) (fun q => h2 q H locs ls hW hS hl)
theorem sm_r9 (X : sm_X b D cs p R s m args meth c M d mc ms) : sm_rule (sm_c d) mc ms M Q (sm_P0 p l e R s m args below meth c Qf b D cs M) 9 := by
  obtain ⟨hx, hb, -⟩ := X
  intro pc tgt off x L st h k n hd ht h1 h2 H locs ls hW hS hl
  exact lv_if_le hx hb hd ht (fun q => h1 q H locs ls hW hS hl) (fun q => h2 q H locs ls hW hS hl)
theorem sm_r15 (X : sm_X b D cs p R s m args meth c M d mc ms) : sm_rule (sm_c d) mc ms M Q (sm_P0 p l e R s m args below meth c Qf b D cs M) 15 := by
  obtain ⟨hx, hb, -⟩ := X
  intro pc tgt off x y L st h k n hd ht h1 h2 H locs ls hW hS hl
  exact lv_icmp_le hx hb hd ht (fun q => h1 q H locs ls hW hS hl) (fun q => h2 q H locs ls hW hS hl)
theorem sm_r16 (X : sm_X b D cs p R s m args meth c M d mc ms) : sm_rule (sm_c d) mc ms M Q (sm_P0 p l e R s m args below meth c Qf b D cs M) 16 := by
  obtain ⟨hx, hb, -⟩ := X
  intro pc tgt off L st h k n hd ht hk H locs ls hW hS hl
  exact lv_goto hx hb hd ht (hk H locs ls hW hS hl)
theorem sm_r17 (X : sm_X b D cs p R s m args meth c M d mc ms) : sm_rule (sm_c d) mc ms M Q (sm_P0 p l e R s m args below meth c Qf b D cs M) 17 := by
  obtain ⟨hx, hb, -⟩ := X
  intro pc tgt len dflt lo hi offs x L st h k n hd h1 ht hk H locs ls hW hS hl
  exact lv_tableOut hx hb hd h1 ht (hk H locs ls hW hS hl)
theorem sm_r18 (X : sm_X b D cs p R s m args meth c M d mc ms) : sm_rule (sm_c d) mc ms M Q (sm_P0 p l e R s m args below meth c Qf b D cs M) 18 := by
  obtain ⟨hx, hb, -⟩ := X
  intro pc tgt len dflt lo hi off offs x L st h k n hd h1 h2 h3 ht hk H locs ls hW hS hl
  exact lv_tableIn hx hb hd h1 h2 h3 ht (hk H locs ls hW hS hl)
theorem sm_r19 (X : sm_X b D cs p R s m args meth c M d mc ms) : sm_rule (sm_c d) mc ms M Q (sm_P0 p l e R s m args below meth c Qf b D cs M) 19 := by
  obtain ⟨hx, hb, -⟩ := X
  intro pc tgt len dflt off ps x L st h k n hd h1 h2 ht hk H locs ls hW hS hl
  exact lv_lookup hx hb hd h1 h2 ht (hk H locs ls hW hS hl)
theorem sm_r45 (X : sm_X b D cs p R s m args meth c M d mc ms) : sm_rule (sm_c d) mc ms M Q (sm_P0 p l e R s m args below meth c Qf b D cs M) 45 := by
  obtain ⟨hx, hb, -⟩ := X
  intro pc x y L st h k n hd h1 hk H locs ls hW hS hl
  exact lv_idiv hx hb hd h1 (hk H locs ls hW hS hl)
theorem sm_r46 (X : sm_X b D cs p R s m args meth c M d mc ms) : sm_rule (sm_c d) mc ms M Q (sm_P0 p l e R s m args below meth c Qf b D cs M) 46 := by
  obtain ⟨hx, hb, -⟩ := X
  intro pc x y L st h k n hd h1 hk H locs ls hW hS hl
  exact lv_irem hx hb hd h1 (hk H locs ls hW hS hl)
theorem sm_r47 (X : sm_X b D cs p R s m args meth c M d mc ms) : sm_rule (sm_c d) mc ms M Q (sm_P0 p l e R s m args below meth c Qf b D cs M) 47 := by
  obtain ⟨hx, hb, -⟩ := X
  intro pc x y L st h k n hd h1 hk H locs ls hW hS hl
  exact lv_ldiv hx hb hd h1 (hk H locs ls hW hS hl)
theorem sm_r48 (X : sm_X b D cs p R s m args meth c M d mc ms) : sm_rule (sm_c d) mc ms M Q (sm_P0 p l e R s m args below meth c Qf b D cs M) 48 := by
  obtain ⟨hx, hb, -⟩ := X
  intro pc x y L st h k n hd h1 hk H locs ls hW hS hl
  exact lv_lrem hx hb hd h1 (hk H locs ls hW hS hl)
end SMS
end
section
/-! The rules that read and write cells. -/
set_option maxRecDepth 100000 in
theorem sm_cls (k : Nat) (h : vwCl[k]? = some (sm_cl k)) : (∀ w ∈ u_ws (sm_cl k).1 (sm_cl k).2.1 (sm_cl k).2.2, w ∈ lw_tbl ∧ goodWord w = true) ∧ (∃ ty0 : Nat → FieldType, ∀ j, j < (sm_cl k).2.2 → parseFieldDescriptor ((sm_cl k).2.1 j).2.2.1 = some (ty0 j)) ∧ (∀ x, x < (sm_cl k).2.2 → ∀ y, y < (sm_cl k).2.2 → x ≠ y → ((sm_cl k).2.1 x).2.1 ≠ ((sm_cl k).2.1 y).2.1) := by
  have hk : k < 8 := (List.getElem?_eq_some_iff.mp h).1
  clear h
  match k, hk with
  | 0, _ => exact ⟨by decide +kernel, ⟨tyX0, tyX0_ok⟩, nmX0⟩
  | 1, _ => exact ⟨by decide +kernel, ⟨tyX1, tyX1_ok⟩, nmX1⟩
  | 2, _ => exact ⟨by decide +kernel, ⟨tyX2, tyX2_ok⟩, nmX2⟩
  | 3, _ => exact ⟨by decide +kernel, ⟨tyX3, tyX3_ok⟩, nmX3⟩
  | 4, _ => exact ⟨by decide +kernel, ⟨tyX4, tyX4_ok⟩, nmX4⟩
  | 5, _ => exact ⟨by decide +kernel, ⟨tyX5, tyX5_ok⟩, nmX5⟩
  | 6, _ => exact ⟨by decide +kernel, ⟨tyX6, tyX6_ok⟩, nmX6⟩
  | 7, _ => exact ⟨by decide +kernel, ⟨tyX7, tyX7_ok⟩, nmX7⟩
section SMH
variable {p : Program} {l : Launch} {e : Env} {R : Room} {s : State} {m : MethodId} {args : Array Value} {below : List Frame} {meth : Method} {c : Code} {Qf : State → Prop} {b : Nat} {D : va_G} {cs : ClassId × ClassId × ClassId} {M : sm_M} {d mc ms : Nat} {Q : sm_Q}
theorem sm_uin {k : Nat} (h : vwCl[k]? = some (sm_cl k)) : ∀ w ∈ u_ws (sm_cl k).1 (sm_cl k).2.1 (sm_cl k).2.2, w ∈ sm_tb := fun w hw => sm_tbm ((sm_cls k h).1 w hw).1 ((sm_cls k h).1 w hw).2
theorem sm_hts (ht : ∀ w ∈ lw_tbl, goodWord w = true → w.before args s = true) : ∀ w ∈ sm_tb, w.before args s = true := fun w hw => ht w (List.mem_filter.mp hw).1 (List.mem_filter.mp hw).2
theorem sm_e_cg {h h' : sm_H} {r : Nat} (h1 : h'.2.1 r = h.2.1 r) (h2 : h'.2.2.1 r = h.2.2.1 r) (h3 : h'.2.2.2 r = h.2.2.2 r) : sm_e b cs h' r = sm_e b cs h r := by
  unfold sm_e
  rw [h1, h2, h3]
theorem sm_e_i {h : sm_H} {q n : Nat} (hk : h.2.1 q = (0, n)) : sm_e b cs h q = .inl (cs.1, n, .inl (h.2.2.1 q)) := by
  unfold sm_e
  rw [hk]
theorem sm_e_g {h : sm_H} {q n : Nat} (hk : h.2.1 q = (1, n)) : sm_e b cs h q = .inl (cs.2.1, n, .inr (.inr (.inr (.inr (fun j => (h.2.2.2 q j).map (fun r => b + r)))))) := by
  unfold sm_e
  rw [hk]
theorem sm_e_s {h : sm_H} {q n : Nat} (hk : h.2.1 q = (2, n)) : sm_e b cs h q = .inl (cs.2.2, n, .inr (.inr (.inr (.inr (fun j => (h.2.2.2 q j).map (fun r => b + r)))))) := by
  unfold sm_e
  rw [hk]
def sm_fs (b : Nat) (h : sm_H) (q k : Nat) : List Value := (List.range (sm_cl k).2.2).map (fun j => if ((sm_cl k).2.1 j).2.2.1 = "I" then .int (h.2.2.1 q j) else va_rf ((h.2.2.2 q j).map (fun r => b + r)))
theorem sm_e_o {h : sm_H} {q k : Nat} (hk : (h.2.1 q).1 = k + 3) : sm_e b cs h q = .inr (k, sm_fs b h q k) := by
  unfold sm_e sm_fs
  generalize h.2.1 q = x at hk
  obtain ⟨x1, x2⟩ := x
  have hk : x1 = k + 3 := hk
  subst hk
  rfl
theorem sm_fs_i {h : sm_H} {q k j : Nat} (hj : j < (sm_cl k).2.2) (hi : ((sm_cl k).2.1 j).2.2.1 = "I") : (sm_fs b h q k)[j]? = some (.int (h.2.2.1 q j)) := by
  unfold sm_fs
  rw [List.getElem?_map, List.getElem?_range hj]
  simp [hi]
theorem sm_fs_r {h : sm_H} {q k j : Nat} (hj : j < (sm_cl k).2.2) (hi : ((sm_cl k).2.1 j).2.2.1 ≠ "I") : (sm_fs b h q k)[j]? = some (va_rf ((h.2.2.2 q j).map (fun r => b + r))) := by
  unfold sm_fs
  rw [List.getElem?_map, List.getElem?_range hj]
  simp [hi]
theorem sm_fs_len {h : sm_H} {q k : Nat} : (sm_fs b h q k).length = (sm_cl k).2.2 := by
  unfold sm_fs
  rw [List.length_map, List.length_range]
theorem sm_up_o {α : Type} {f : Nat → Nat → α} {q j r : Nat} {v : α} (h : r ≠ q) : sm_up f q j v r = f r := by
  funext x
  unfold sm_up
  rw [if_neg h]
theorem sm_up_s {α : Type} {f : Nat → Nat → α} {q j : Nat} {v : α} : sm_up f q j v q = fun x => if x = j then v else f q x := by
  funext x
  unfold sm_up
  rw [if_pos rfl]
theorem sm_e_si {h : sm_H} {q j r : Nat} {x : Int32} (hr : r ≠ q) : sm_e b cs (sm_si h q j x) r = sm_e b cs h r := sm_e_cg rfl (sm_up_o hr) rfl
theorem sm_e_sr {h : sm_H} {q j r : Nat} {x : Option Nat} (hr : r ≠ q) : sm_e b cs (sm_sr h q j x) r = sm_e b cs h r := sm_e_cg rfl rfl (sm_up_o hr)
theorem sm_e_sw {h : sm_H} {q r : Nat} {f : Nat → Int32} (hr : r ≠ q) : sm_e b cs (sm_sw h q f) r = sm_e b cs h r := sm_e_cg rfl (if_neg hr) rfl
theorem sm_fs_si {h : sm_H} {q k j : Nat} {x : Int32} (hj : j < (sm_cl k).2.2) (hi : ((sm_cl k).2.1 j).2.2.1 = "I") : sm_fs b (sm_si h q j x) q k = (sm_fs b h q k).set j (.int x) := by
  apply List.ext_getElem?
  intro i
  by_cases hn : i < (sm_cl k).2.2
  · by_cases e : i = j
    · subst e
      rw [sm_fs_i hj hi, List.getElem?_set_self (by rw [sm_fs_len]; exact hj)]
      simp [sm_si, sm_up]
    · rw [List.getElem?_set_ne (Ne.symm e)]
      by_cases hI : ((sm_cl k).2.1 i).2.2.1 = "I"
      · rw [sm_fs_i hn hI, sm_fs_i hn hI]
        simp [sm_si, sm_up, e]
      · rw [sm_fs_r hn hI, sm_fs_r hn hI]
        rfl
  · rw [List.getElem?_eq_none (by rw [sm_fs_len]; omega), List.getElem?_eq_none (by rw [List.length_set, sm_fs_len]; omega)]
theorem sm_fs_sr {h : sm_H} {q k j r : Nat} (hj : j < (sm_cl k).2.2) (hi : ((sm_cl k).2.1 j).2.2.1 ≠ "I") : sm_fs b (sm_sr h q j (some r)) q k = (sm_fs b h q k).set j (.ref (b + r)) := by
  apply List.ext_getElem?
  intro i
  by_cases hn : i < (sm_cl k).2.2
  · by_cases e : i = j
    · subst e
      rw [sm_fs_r hj hi, List.getElem?_set_self (by rw [sm_fs_len]; exact hj)]
      simp [sm_sr, sm_up, va_rf]
    · rw [List.getElem?_set_ne (Ne.symm e)]
      by_cases hI : ((sm_cl k).2.1 i).2.2.1 = "I"
      · rw [sm_fs_i hn hI, sm_fs_i hn hI]
        rfl
      · rw [sm_fs_r hn hI, sm_fs_r hn hI]
        simp [sm_sr, sm_up, e]
  · rw [List.getElem?_eq_none (by rw [sm_fs_len]; omega), List.getElem?_eq_none (by rw [List.length_set, sm_fs_len]; omega)]
theorem sm_at_o {h : sm_H} {q k : Nat} (hq : q < h.1) (hk : (h.2.1 q).1 = k + 3) : (sm_ws b cs h)[q]? = some (b + q, .inr (k, sm_fs b h q k)) := by rw [sm_ws_at b cs h hq, sm_e_o hk]
theorem sm_at_i {h : sm_H} {q n : Nat} (hq : q < h.1) (hk : h.2.1 q = (0, n)) : (sm_ws b cs h)[q]? = some (b + q, .inl (cs.1, n, .inl (h.2.2.1 q))) := by rw [sm_ws_at b cs h hq, sm_e_i hk]
theorem sm_at_g {h : sm_H} {q n : Nat} (hq : q < h.1) (hk : h.2.1 q = (1, n)) : (sm_ws b cs h)[q]? = some (b + q, .inl (cs.2.1, n, .inr (.inr (.inr (.inr (fun j => (h.2.2.2 q j).map (fun r => b + r))))))) := by rw [sm_ws_at b cs h hq, sm_e_g hk]
theorem sm_at_s {h : sm_H} {q n : Nat} (hq : q < h.1) (hk : h.2.1 q = (2, n)) : (sm_ws b cs h)[q]? = some (b + q, .inl (cs.2.2, n, .inr (.inr (.inr (.inr (fun j => (h.2.2.2 q j).map (fun r => b + r))))))) := by rw [sm_ws_at b cs h hq, sm_e_s hk]
/-- a cell is put anew: the picture moves -/
theorem sm_W.put {h h' : sm_H} {q : Nat} {x0 x : va_E} {H H1 : Heap} (hW : sm_W b D cs h H) (hq : q < h.1) (hx0 : sm_e b cs h q = x0) (hn : h'.1 = h.1) (hx : sm_e b cs h' q = x) (ho : ∀ r, r ≠ q → sm_e b cs h' r = sm_e b cs h r) (hc : va_at D vwCl (b + q, x) H1) (hz : H1.size = H.size) (oq : ∀ r, r ≠ b + q → H1[r]? = H[r]?) : sm_W b D cs h' H1 := by
  refine ⟨?_, by rw [hz, hW.2, hn]⟩
  rw [← sm_ws_set hn hx ho]
  exact hW.1.set (sm_ws_D b cs h) (sm_ws_at b cs h hq) hc oq
theorem sm_r23 (X : sm_X b D cs p R s m args meth c M d mc ms) : sm_rule (sm_c d) mc ms M Q (sm_P0 p l e R s m args below meth c Qf b D cs M) 23 := by
  obtain ⟨hx, hb, -, ho, ht, ⟨hK, -⟩, -⟩ := X
  intro pc idx c0 j q L st h k n hd hf hq hc hk H locs ls hW hS hl
  obtain ⟨f1, f2, f3, f4⟩ := hf
  exact va_get (ci := c0) (C := (sm_cl c0).1) (T := (sm_cl c0).2.1) (N := (sm_cl c0).2.2) (ref := ((sm_cl c0).2.1 j).1) hx hb (sm_hts ht) (sm_uin f1) ho hK hW.1 q (sm_at_o hq hc) f1 j f2 (ht _ f4 rfl) (fun _ h9 => h9) (sm_fs_i f2 f3) hd (hk H locs ls hW hS hl)
theorem sm_r24 (X : sm_X b D cs p R s m args meth c M d mc ms) : sm_rule (sm_c d) mc ms M Q (sm_P0 p l e R s m args below meth c Qf b D cs M) 24 := by
  obtain ⟨hx, hb, -, ho, ht, ⟨hK, -⟩, -⟩ := X
  intro pc idx c0 j q r L st h k n hd hf hq hc hr hk H locs ls hW hS hl
  obtain ⟨f1, f2, f3, f4⟩ := hf
  have hv := sm_fs_r (b := b) (h := h) (q := q) f2 f3
  rw [hr] at hv
  exact va_get (ci := c0) (C := (sm_cl c0).1) (T := (sm_cl c0).2.1) (N := (sm_cl c0).2.2) (ref := ((sm_cl c0).2.1 j).1) hx hb (sm_hts ht) (sm_uin f1) ho hK hW.1 q (sm_at_o hq hc) f1 j f2 (ht _ f4 rfl) (fun _ h9 => h9) hv hd (hk H locs ls hW hS hl)
theorem sm_apart (ht : ∀ w ∈ lw_tbl, goodWord w = true → w.before args s = true) (hK : va_K D vwCl (sm_ty cs) s) {k : Nat} (h : vwCl[k]? = some (sm_cl k)) : ∀ x y, x < (sm_cl k).2.2 → y < (sm_cl k).2.2 → x ≠ y → (D.2 k) x ≠ (D.2 k) y := by
  obtain ⟨-, ⟨ty0, h2⟩, h3⟩ := sm_cls k h
  exact va_apart (own := "") (C := (sm_cl k).1) (sm_hts ht) (sm_uin h) ty0 h2 h3 hK h
theorem sm_fieldput (X : sm_X b D cs p R s m args meth c M d mc ms) {pc idx c0 j q : Nat} {st : List Value} {h h' : sm_H} {k n : Nat} {v : Value} {ty : FieldType} {H : Heap} {locs : List Loc} {ls : Array Slot} (hd : decode M.2.1 pc = .ok (.putfield idx, 3)) (f1 : vwCl[c0]? = some (sm_cl c0)) (f2 : j < (sm_cl c0).2.2) (f4 : Cond.fieldLink M.1.cls idx ((sm_cl c0).2.1 j).1 ((sm_cl c0).2.1 j).2.1 ((sm_cl c0).2.1 j).2.2.1 ∈ lw_tbl) (hfin : ((sm_cl c0).2.1 j).2.2.2 = false ∨ (((sm_cl c0).2.1 j).2.2.2 = true ∧ M.1.name = "<init>" ∧ ((sm_cl c0).2.1 j).1 = M.1.cls))
    (hty : parseFieldDescriptor ((sm_cl c0).2.1 j).2.2.1 = some ty) (hnv : narrow ty v = v) (hfv : fits ty v = true) (hq : q < h.1) (hc : (h.2.1 q).1 = c0 + 3) (hW : sm_W b D cs h H) (hS : va_S (sm_A b) s.heap H locs) (hn : h'.1 = h.1) (hfs : sm_e b cs h' q = .inr (c0, (sm_fs b h q c0).set j v)) (ho' : ∀ r, r ≠ q → sm_e b cs h' r = sm_e b cs h r)
    (hk : ∀ (H1 : Heap) (locs1 : List Loc), sm_W b D cs h' H1 → va_S (sm_A b) s.heap H1 locs1 → W p l e R s m args below meth c H1 locs1 k n Qf (F0 m (pc + 3) ls st)) : W p l e R s m args below meth c H locs k n Qf (F0 m pc ls (v :: .ref (b + q) :: st)) := by
  obtain ⟨hx, hb, -, ho, ht, ⟨hK, -⟩, hnm, -⟩ := X
  have hts := sm_hts ht
  have hin := sm_uin f1
  have hap := sm_apart ht hK f1
  obtain ⟨r, h1, cell, q1, q2, q3, q4⟩ := hW.1 q _ (sm_at_o hq hc)
  have hr : r = sm_cl c0 := Option.some.inj (h1.symm.trans f1)
  subst hr
  obtain ⟨hSl, hfc, kC, hkC, hkind⟩ := hK.1 c0 _ f1
  obtain ⟨cf, kf, fi, f, hi, hsl⟩ := hSl j f2
  have hlay := hts _ (hin _ (u_in_lay f2))
  have hst := (u_facts hfc hkC (u_lays hts hin f2) hi).1
  have fin : ∀ H' : Heap, H'[b + q]? = some (cell.setSlot (D.2 c0 j) v) → H'.size = H.size → (∀ x, x ≠ b + q → H'[x]? = H[x]?) → W p l e R s m args below meth c H' (locs ++ [⟨b + q, D.2 c0 j⟩]) k n Qf (F0 m (pc + 3) ls st) := by
    intro H' e1 e2 e3
    refine hk H' _ (hW.put hq (sm_e_o hc) hn hfs ho' ⟨_, f1, t_OB.to (V := updV (vp_V (sm_fs b h q c0)) j v) ⟨_, e1, q2, q3, t_set q4 hap f2 v⟩ (fun i _ => vp_updV_set (by rw [sm_fs_len]; exact f2) v i)⟩ e2 e3) (hS.put e2 e3 (Nat.le_add_right b q))
  rcases hfin with h5 | ⟨h5, h6, h7⟩
  · unfold u_lay at hlay
    rw [if_neg (by rw [h5]; decide)] at hlay
    have h6 := u_store hfc hkC hkind hlay hi hty hnv hfv
    refine W.putK hx hb (f := f) ⟨ho, ht _ f4 rfl, ⟨_, _, _, hi⟩, hst⟩ (by rw [q2]; exact h6) q1 q3 (by rw [hsl]; exact k2_hasslot (q4 j f2)) rfl rfl hd fun H' e1 e2 e3 => ?_
    rw [hsl] at e1 ⊢
    exact fin H' e1 e2 e3
  · unfold u_lay at hlay
    rw [if_pos h5] at hlay
    have hcf : m.cls = cf := by
      obtain ⟨_, _, c', _, _, _, -, -, hf', -, -, -, hown2, -⟩ := Cond.laysFinal_spec hlay
      have e1 : c' = cf := by have := hi.symm.trans hf'; simp at this; exact this.1.symm
      rw [h7] at hown2
      rw [← e1]; exact Option.some.inj (ho.symm.trans hown2)
    have h8 := u_fits hfc hkC hkind (Or.inr hlay) hi hty hnv hfv
    refine W.putFinK hx hb ho (ht _ f4 rfl) hi hst hcf (hnm.trans h6) (by rw [q2]; exact h8) q1 q3 (by rw [hsl]; exact k2_hasslot (q4 j f2)) rfl rfl hd fun H' e1 e2 e3 => ?_
    rw [hsl] at e1 ⊢
    exact fin H' e1 e2 e3
theorem sm_parseI {t : String} (h : t = "I") : parseFieldDescriptor t = some .int := by
  subst h
  decide +kernel
theorem sm_r25 (X : sm_X b D cs p R s m args meth c M d mc ms) : sm_rule (sm_c d) mc ms M Q (sm_P0 p l e R s m args below meth c Qf b D cs M) 25 := by
  intro pc idx c0 j q x L st h k n hd hf hfin hq hc hk H locs ls hW hS hl
  obtain ⟨f1, f2, f3, f4⟩ := hf
  exact sm_fieldput (h' := sm_si h q j x) (v := .int x) X hd f1 f2 f4 (Or.inl hfin) (sm_parseI f3) rfl rfl hq hc hW hS rfl (by rw [sm_e_o (k := c0) (show ((sm_si h q j x).2.1 q).1 = c0 + 3 from hc), sm_fs_si f2 f3]) (fun r hr => sm_e_si hr) (fun H1 locs1 hW1 hS1 => hk H1 locs1 ls hW1 hS1 hl)
theorem sm_r26 (X : sm_X b D cs p R s m args meth c M d mc ms) : sm_rule (sm_c d) mc ms M Q (sm_P0 p l e R s m args below meth c Qf b D cs M) 26 := by
  intro pc idx c0 j q x L st h k n hd hf hfin hnm hcl hq hc hk H locs ls hW hS hl
  obtain ⟨f1, f2, f3, f4⟩ := hf
  exact sm_fieldput (h' := sm_si h q j x) (v := .int x) X hd f1 f2 f4 (Or.inr ⟨hfin, hnm, hcl⟩) (sm_parseI f3) rfl rfl hq hc hW hS rfl (by rw [sm_e_o (k := c0) (show ((sm_si h q j x).2.1 q).1 = c0 + 3 from hc), sm_fs_si f2 f3]) (fun r hr => sm_e_si hr) (fun H1 locs1 hW1 hS1 => hk H1 locs1 ls hW1 hS1 hl)
theorem sm_r27 (X : sm_X b D cs p R s m args meth c M d mc ms) : sm_rule (sm_c d) mc ms M Q (sm_P0 p l e R s m args below meth c Qf b D cs M) 27 := by
  intro pc idx c0 j q r L st h k n hd hf hff hnm hcl hq hc hk H locs ls hW hS hl
  obtain ⟨f1, f2, f3, f4⟩ := hf
  obtain ⟨g1, ty, g2, g3⟩ := hff
  exact sm_fieldput (h' := sm_sr h q j (some r)) (v := .ref (b + r)) X hd f1 f2 f4 (Or.inr ⟨g1, hnm, hcl⟩) g2 (g3 _).1 (g3 _).2 hq hc hW hS rfl (by rw [sm_e_o (k := c0) (show ((sm_sr h q j (some r)).2.1 q).1 = c0 + 3 from hc), sm_fs_sr f2 f3]) (fun r hr => sm_e_sr hr) (fun H1 locs1 hW1 hS1 => hk H1 locs1 ls hW1 hS1 hl)
theorem sm_r28 (X : sm_X b D cs p R s m args meth c M d mc ms) : sm_rule (sm_c d) mc ms M Q (sm_P0 p l e R s m args below meth c Qf b D cs M) 28 := by
  obtain ⟨hx, hb, -, ho, ht, ⟨hK, -⟩, -⟩ := X
  intro pc q n0 j i L st h k n hd hq hkd hin hj hk H locs ls hW hS hl
  subst hj
  exact va_iald hx hb hK hW.1 q 0 (sm_at_i hq hkd) rfl hin hd (hk H locs ls hW hS hl)
theorem sm_r29 (X : sm_X b D cs p R s m args meth c M d mc ms) : sm_rule (sm_c d) mc ms M Q (sm_P0 p l e R s m args below meth c Qf b D cs M) 29 := by
  obtain ⟨hx, hb, -, ho, ht, ⟨hK, -⟩, -⟩ := X
  intro pc q n0 j i x L st h k n hd hq hkd hin hj hk H locs ls hW hS hl
  subst hj
  refine W.iast hx hb (hW.1 q _ (sm_at_i hq hkd)) ((hK.2 0 _ rfl).1 n0 (fun j => .int (h.2.2.1 q j))) (fun q => by cases q) (by show ¬ (i < 0 ∨ (arrV _ _ _).slots.size ≤ _); rw [arrV_size]; exact hin) rfl rfl hd fun H1 e1 z oq => ?_
  refine hk H1 _ ls (hW.put hq (sm_e_i hkd) rfl (x := .inl (cs.1, n0, .inl (fun a => if a = i.toNatClampNeg then x else h.2.2.1 q a))) ?_ (fun r hr => sm_e_si hr) ?_ z oq) (hS.put z oq (Nat.le_add_right b q)) hl
  · rw [sm_e_i (n := n0) (show (sm_si h q i.toNatClampNeg x).2.1 q = (0, n0) from hkd)]
    show (Sum.inl (cs.1, n0, Sum.inl (sm_up h.2.2.1 q i.toNatClampNeg x q)) : va_E) = _
    rw [sm_up_s]
  · show H1[b + q]? = some (vp_cell _ _)
    rw [e1]
    rw [vp_cell_i, vp_cell_i, arrV_store]
    congr 2
    funext a
    by_cases ha : a = i.toNatClampNeg
    · subst ha
      simp [updV]
    · simp [updV, ha]
end SMH
end
section
/-! The rules that make cells, return, and call. -/
set_option maxRecDepth 100000 in
theorem sm_cld (k : Nat) (h : vwCl[k]? = some (sm_cl k)) : ∀ j, j < (sm_cl k).2.2 → ((sm_cl k).2.1 j).2.2.1 = "I" ∨ (parseFieldDescriptor ((sm_cl k).2.1 j).2.2.1).map defaultValue = some .null := by
  have hk : k < 8 := (List.getElem?_eq_some_iff.mp h).1
  clear h
  match k, hk with
  | 0, _ => decide +kernel
  | 1, _ => decide +kernel
  | 2, _ => decide +kernel
  | 3, _ => decide +kernel
  | 4, _ => decide +kernel
  | 5, _ => decide +kernel
  | 6, _ => decide +kernel
  | 7, _ => decide +kernel
theorem sm_mAC : Cond.arrayClass .int ∈ lw_tbl := List.mem_of_getElem? (i := 145) rfl
theorem sm_mOI : Cond.instanceMethod objectInit ∈ lw_tbl := by decide +kernel
theorem sm_mOC : Cond.code objectInit ⟨#[0xb1]⟩ 1 none ∈ lw_tbl := List.mem_of_getElem? (i := 68) rfl
theorem sm_mMi : Cond.code Lib.Math.min.name Lib.Math.min.code 2 (some .int) ∈ lw_tbl := List.mem_of_getElem? (i := 409) rfl
theorem sm_mMa : Cond.code Lib.Math.max.name Lib.Math.max.code 2 (some .int) ∈ lw_tbl := List.mem_of_getElem? (i := 437) rfl
theorem sm_mMis : Cond.static Lib.Math.min.name ∈ lw_tbl := by decide +kernel
theorem sm_mMas : Cond.static Lib.Math.max.name ∈ lw_tbl := by decide +kernel
theorem sm_mMI : Cond.initialized "java/lang/Math" ∈ lw_tbl := by decide +kernel
theorem sm_mSI : Cond.initialized "java/lang/System" ∈ lw_tbl := by decide +kernel
theorem sm_mSN : Cond.native arraycopyName ∈ lw_tbl := by decide +kernel
theorem sm_mSS : Cond.static arraycopyName ∈ lw_tbl := by decide +kernel
theorem sm_outer (k : ClassId) (N h0 : Nat) : ∀ i : Nat, Jvm.Free.Multi.outerC k N h0 i = arrV k N (fun j => va_rf (if j < i then some (h0 + 1 + j) else none))
  | 0 => by
    show ({ cls := k, slots := Array.replicate N .null, vm := .none } : Cell) = _
    rw [arrV_new]
    refine congrArg (arrV k N) (funext fun j => ?_)
    simp [va_rf]
  | i + 1 => by
    show (Jvm.Free.Multi.outerC k N h0 i).setSlot i (.ref (h0 + 1 + i)) = _
    rw [sm_outer k N h0 i, arrV_store]
    refine congrArg (arrV k N) (funext fun j => ?_)
    by_cases e : j = i
    · subst e
      simp [updV, va_rf]
    · by_cases h : j < i
      · simp [updV, e, h, Nat.lt_succ_of_lt h]
      · simp [updV, e, h, show ¬ j < i + 1 by omega]
section SMN
variable {p : Program} {l : Launch} {e : Env} {R : Room} {s : State} {m : MethodId} {args : Array Value} {below : List Frame} {meth : Method} {c : Code} {Qf : State → Prop} {b : Nat} {D : va_G} {cs : ClassId × ClassId × ClassId} {M : sm_M} {d mc ms : Nat} {Q : sm_Q}
theorem sm_vmap {st : List Value} (h : sm_cat st) : ((st.map (sm_v b)).map fun v => v.category).sum ≤ 8 := by
  rw [List.map_map]
  have e : ((fun v : Value => v.category) ∘ sm_v b) = fun v : Value => v.category := funext fun v => sm_v_cat b v
  rw [e]
  exact h
theorem sm_r30 (X : sm_X b D cs p R s m args meth c M d mc ms) : sm_rule (sm_c d) mc ms M Q (sm_P0 p l e R s m args below meth c Qf b D cs M) 30 := by
  obtain ⟨hx, hb, -, ho, ht, ⟨hK, -⟩, -⟩ := X
  intro pc q n0 r i L st h k n hd hq hkd hin hr hk H locs ls hW hS hl
  have hlt : i.toNatClampNeg < n0 := Nat.not_le.mp fun q => hin (Or.inr q)
  exact W.aald (v := .ref (b + r)) (ty := .array .int) hx hb (hW.1 q _ (sm_at_g hq hkd)) ((hK.2 1 _ rfl).1 n0 (fun j => va_rf ((h.2.2.2 q j).map (fun r => b + r)))) rfl (fun q => by cases q) (by show ¬ (i < 0 ∨ (arrV _ _ _).slots.size ≤ _); rw [arrV_size]; exact hin) (by show (arrV _ _ _).slots[_]? = _; rw [arrV_read _ _ hlt]; show some (va_rf (Option.map (fun r => b + r) (h.2.2.2 q i.toNatClampNeg))) = _; rw [hr]; rfl) rfl rfl hd (hk H locs ls hW hS hl)
theorem sm_r31 (X : sm_X b D cs p R s m args meth c M d mc ms) : sm_rule (sm_c d) mc ms M Q (sm_P0 p l e R s m args below meth c Qf b D cs M) 31 := by
  obtain ⟨hx, hb, -, ho, ht, ⟨hK, -⟩, -⟩ := X
  intro pc q n0 r i L st h k n hd hq hkd hin hr hk H locs ls hW hS hl
  have hlt : i.toNatClampNeg < n0 := Nat.not_le.mp fun q => hin (Or.inr q)
  exact W.aald (v := .ref (b + r)) (ty := .object "SnowInns$Sheet") hx hb (hW.1 q _ (sm_at_s hq hkd)) ((hK.2 2 _ rfl).1 n0 (fun j => va_rf ((h.2.2.2 q j).map (fun r => b + r)))) rfl (fun q => by cases q) (by show ¬ (i < 0 ∨ (arrV _ _ _).slots.size ≤ _); rw [arrV_size]; exact hin) (by show (arrV _ _ _).slots[_]? = _; rw [arrV_read _ _ hlt]; show some (va_rf (Option.map (fun r => b + r) (h.2.2.2 q i.toNatClampNeg))) = _; rw [hr]; rfl) rfl rfl hd (hk H locs ls hW hS hl)
theorem sm_r32 (X : sm_X b D cs p R s m args meth c M d mc ms) : sm_rule (sm_c d) mc ms M Q (sm_P0 p l e R s m args below meth c Qf b D cs M) 32 := by
  obtain ⟨hx, hb, -, ho, ht, ⟨hK, -⟩, -⟩ := X
  intro pc q n0 r i L st h k n hd hq hkd hin hrl hrk hk H locs ls hW hS hl
  have hlt : i.toNatClampNeg < n0 := Nat.not_le.mp fun q => hin (Or.inr q)
  have h0 : ¬ i < 0 := fun q => hin (Or.inl q)
  have hc3 : vwCl[3]? = some (sm_cl 3) := rfl
  obtain ⟨r', hr', cellV, g1, g2, g3, -⟩ := hW.1 r _ (sm_at_o (k := 3) hrl hrk)
  have hcls := (hK.1 3 _ hc3).2
  obtain ⟨kA, comp, k1, k2, k3, -⟩ := (hK.2 2 _ rfl).2
  have hcomp : comp = D.1 3 := Option.some.inj (k3.symm.trans hcls.1)
  subst hcomp
  obtain ⟨kC, hkC, -⟩ := hcls.2
  refine W.aast hx hb (hW.1 q _ (sm_at_s hq hkd)) (fun q h => by cases h) (fun h => by cases h) k1 k2 rfl hkC ⟨h0, by show _ < (arrV _ _ _).slots.size; rw [arrV_size]; exact hlt⟩ g1 (fun q h => by rw [g3] at h; cases h) (by rw [g2]; exact hkC) (by rw [g2]; exact va_assign hcls) rfl rfl hd fun H1 e1 z oq => ?_
  refine hk H1 _ ls (hW.put hq (sm_e_s hkd) rfl (sm_e_s (n := n0) (show (sm_sr h q i.toNatClampNeg (some r)).2.1 q = (2, n0) from hkd)) (fun r hr => sm_e_sr hr) ?_ z oq) (hS.put z oq (Nat.le_add_right b q)) hl
  show H1[b + q]? = some (vp_cell _ _)
  rw [e1]
  rw [vp_cell_q, vp_cell_q, arrV_store]
  congr 2
  funext a
  by_cases ha : a = i.toNatClampNeg
  · subst ha
    simp [updV, sm_sr, sm_up, va_rf]
  · simp [updV, sm_sr, sm_up, ha]
/-- new places -/
theorem sm_W.nw {h : sm_H} {k : Nat} {kd : Nat → Nat × Nat} {rf : Nat → Nat → Option Nat} {H H1 : Heap} (hW : sm_W b D cs h H) (hz : H1.size = b + (h.1 + k)) (ho : ∀ q, q < H.size → H1[q]? = H[q]?) (hn : ∀ i, i < k → va_at D vwCl (b + (h.1 + i), sm_e b cs (sm_nw h k kd rf) (h.1 + i)) H1) : sm_W b D cs (sm_nw h k kd rf) H1 := by
  refine ⟨fun i x hx => ?_, hz⟩
  obtain ⟨h1, rfl⟩ := sm_ws_lt hx
  by_cases hi : i < h.1
  · rw [sm_e_cg (h := h) (show (sm_nw h k kd rf).2.1 i = h.2.1 i from if_pos hi) (funext fun j => if_pos hi) (funext fun j => if_pos hi)]
    have h2 := hW.1 i _ (sm_ws_at b cs h hi)
    exact h2.kept (ho _ h2.lt)
  · have h1 : i < h.1 + k := h1
    have e : i = h.1 + (i - h.1) := by omega
    rw [e]
    exact hn _ (by omega)
theorem sm_S.nw {H H1 : Heap} {locs : List Loc} (hS : va_S (sm_A b) s.heap H locs) (hz : H.size ≤ H1.size) (ho : ∀ q, q < H.size → H1[q]? = H[q]?) : va_S (sm_A b) s.heap H1 locs := ⟨Nat.le_trans hS.1 hz, fun x h1 h2 => (ho x (Nat.lt_of_lt_of_le h1 hS.1)).trans (hS.2.1 x h1 h2), hS.2.2⟩
theorem sm_nwk {h : sm_H} {k i : Nat} {kd : Nat → Nat × Nat} {rf : Nat → Nat → Option Nat} : (sm_nw h k kd rf).2.1 (h.1 + i) = kd i := by
  show (if h.1 + i < h.1 then _ else kd (h.1 + i - h.1)) = _
  rw [if_neg (by omega), Nat.add_sub_cancel_left]
theorem sm_nwi {h : sm_H} {k i : Nat} {kd : Nat → Nat × Nat} {rf : Nat → Nat → Option Nat} : (sm_nw h k kd rf).2.2.1 (h.1 + i) = fun _ => 0 := by
  funext j
  show (if h.1 + i < h.1 then _ else (0 : Int32)) = _
  rw [if_neg (by omega)]
theorem sm_nwr {h : sm_H} {k i : Nat} {kd : Nat → Nat × Nat} {rf : Nat → Nat → Option Nat} : (sm_nw h k kd rf).2.2.2 (h.1 + i) = rf i := by
  funext j
  show (if h.1 + i < h.1 then _ else rf (h.1 + i - h.1) j) = _
  rw [if_neg (by omega), Nat.add_sub_cancel_left]
theorem sm_r33 (X : sm_X b D cs p R s m args meth c M d mc ms) : sm_rule (sm_c d) mc ms M Q (sm_P0 p l e R s m args below meth c Qf b D cs M) 33 := by
  obtain ⟨hx, hb, -, ho, ht, ⟨hK, -⟩, -, ⟨-, -, hrc, hrs⟩, -⟩ := X
  intro pc idx c0 L st h k n hd hL hc1 hs1 hk H locs ls hW hS hl
  obtain ⟨f1, f2, f3, f4⟩ := hL
  have hKn := hK.1 c0 _ f1
  refine W.newcK hx hb ho (ht _ f2 rfl) (ht _ f3 rfl) (ht _ f4 rfl) rfl hd (by rw [hrc]; exact hc1) (by rw [hrs]; exact hs1) hKn.2.1 hW.2 fun H1 kC hkC e1 z1 o1 => ?_
  refine hk H1 locs ls (hW.nw (by rw [z1]; omega) (fun q hq => o1 q (by rw [← hW.2]; exact hq)) (fun i hi => ?_)) (sm_S.nw hS (by rw [z1, hW.2]; omega) (fun q hq => o1 q (by rw [← hW.2]; exact hq))) hl
  have hi0 : i = 0 := by omega
  subst hi0
  rw [sm_e_o (k := c0) (show ((sm_nw h 1 (fun _ => (c0 + 3, 0)) (fun _ _ => none)).2.1 (h.1 + 0)).1 = c0 + 3 by rw [sm_nwk])]
  obtain ⟨-, ⟨ty0, h2⟩, -⟩ := sm_cls c0 f1
  refine ⟨_, f1, (u_born ty0 (sm_hts ht) (sm_uin f1) hKn hkC (by rw [Nat.add_zero]; exact e1) h2).to (fun j hj => ?_)⟩
  by_cases hI : ((sm_cl c0).2.1 j).2.2.1 = "I"
  · have e2 : ty0 j = .int := Option.some.inj ((h2 j hj).symm.trans (sm_parseI hI))
    rw [e2]
    unfold vp_V
    rw [List.getD_eq_getElem?_getD, sm_fs_i hj hI, sm_nwi]
    rfl
  · rcases sm_cld c0 f1 j hj with h3 | h3
    · exact absurd h3 hI
    · rw [h2 j hj] at h3
      have h4 : defaultValue (ty0 j) = .null := Option.some.inj h3
      rw [h4]
      unfold vp_V
      rw [List.getD_eq_getElem?_getD, sm_fs_r hj hI, sm_nwr]
      rfl
theorem sm_r34 (X : sm_X b D cs p R s m args meth c M d mc ms) : sm_rule (sm_c d) mc ms M Q (sm_P0 p l e R s m args below meth c Qf b D cs M) 34 := by
  obtain ⟨hx, hb, -, ho, ht, ⟨hK, -⟩, -, ⟨-, -, hrc, hrs⟩, -⟩ := X
  intro pc N x L st h k n hd hn0 hN hN1 hc1 hs1 hk H locs ls hW hS hl
  refine va_newaK (atype := .int) hx hb (ht _ sm_mAC rfl) rfl hd rfl hn0 hN (by show N * 4 ≤ _; omega) (by rw [hrc]; exact hc1) (by rw [hrs]; exact hs1) hW.2 fun H1 cA e1 z1 o1 hAr hNm => ?_
  have hcA : cA = cs.1 := Option.some.inj (hNm.symm.trans (hK.2 0 _ rfl).2)
  subst hcA
  refine hk H1 locs ls (hW.nw (by rw [z1]; omega) (fun q hq => o1 q (by rw [← hW.2]; exact hq)) (fun i hi => ?_)) (sm_S.nw hS (by rw [z1, hW.2]; omega) (fun q hq => o1 q (by rw [← hW.2]; exact hq))) hl
  have hi0 : i = 0 := by omega
  subst hi0
  rw [sm_e_i (n := N) (sm_nwk (h := h) (k := 1) (i := 0) (kd := fun _ => (0, N)) (rf := fun _ _ => none)), sm_nwi]
  exact e1
theorem sm_r35 (X : sm_X b D cs p R s m args meth c M d mc ms) : sm_rule (sm_c d) mc ms M Q (sm_P0 p l e R s m args below meth c Qf b D cs M) 35 := by
  obtain ⟨hx, hb, -, ho, ht, ⟨hK, hN⟩, -, ⟨-, -, hrc, hrs⟩, -⟩ := X
  intro pc idx N x L st h k n hd hcl hn0 hN0 hN1 hc1 hs1 hk H locs ls hW hS hl
  subst hN0
  refine W.anew hx hb ho (ht _ hcl rfl) (va_AO.use hN.2.1) rfl hd rfl hn0 (by omega) (by rw [hrc]; exact hc1) (by rw [hrs]; exact hs1) fun cA kA comp f1 f2 f3 f4 => ?_
  obtain ⟨_, _, -, -, -, k4⟩ := (hK.2 2 _ rfl).2
  have hcA : cA = cs.2.2 := Option.some.inj (f1.symm.trans k4)
  subst hcA
  generalize hH1 : H.push ({ cls := cs.2.2, slots := Array.replicate x.toNatClampNeg .null, vm := .none } : Cell) = H1
  have z1 : H1.size = H.size + 1 := by rw [← hH1, Array.size_push]
  have e1 : H1[H.size]? = some (arrV cs.2.2 x.toNatClampNeg (fun _ => .null)) := by rw [← hH1, Array.getElem?_push_size, ← arrV_new]
  have o1 : ∀ q : Nat, q < H.size → H1[q]? = H[q]? := fun q hq => by rw [← hH1, Array.getElem?_push, if_neg (Nat.ne_of_lt hq)]
  rw [hW.2]
  refine hk H1 locs ls (hW.nw (by rw [z1, hW.2]; omega) o1 (fun i hi => ?_)) (sm_S.nw hS (by omega) o1) hl
  have hi0 : i = 0 := by omega
  subst hi0
  rw [sm_e_s (n := x.toNatClampNeg) (sm_nwk (h := h) (k := 1) (i := 0) (kd := fun _ => (2, x.toNatClampNeg)) (rf := fun _ _ => none)), sm_nwr]
  show H1[b + (h.1 + 0)]? = some (vp_cell _ _)
  rw [vp_cell_q, Nat.add_zero, ← hW.2, e1]
  rfl
theorem sm_r36 (X : sm_X b D cs p R s m args meth c M d mc ms) : sm_rule (sm_c d) mc ms M Q (sm_P0 p l e R s m args below meth c Qf b D cs M) 36 := by
  obtain ⟨hx, hb, -, ho, ht, ⟨hK, hN⟩, -, ⟨-, -, hrc, hrs⟩, -⟩ := X
  intro pc idx N K x y L st h k n hd hcl hn0 hN0 hN1 hk0 hK0 hK1 hc1 hs1 hk H locs ls hW hS hl
  subst hN0
  subst hK0
  intro T hT Xs
  obtain ⟨vm₁, cA, comp, -, fA, fC, hO, -, X', step⟩ := Xs.multianewarray2F hx ho (ty := .int) (ht _ hcl rfl) (arrayOver_alikeB (Vm.Alike.refl _) hN.2.2) (ht _ sm_mAC rfl) (g := F0 m pc ls (.int y :: .int x :: st.map (sm_v b))) rfl (by rw [hb]; exact hd) rfl hn0 hk0 (by omega) (by show _ * 4 ≤ _; omega) (by omega) rfl rfl (by rw [hrc]; exact hc1) (by rw [hrs]; exact hs1)
  have hcA : cA = cs.2.1 := Option.some.inj (fA.symm.trans (hK.2 1 _ rfl).2)
  have hco : comp = cs.1 := Option.some.inj (fC.symm.trans (hK.2 0 _ rfl).2)
  subst hcA
  subst hco
  have hTh : (T.setVm vm₁).heap = H := hT
  generalize hF : Jvm.Free.Multi.fill (T.setVm vm₁) cs.2.1 cs.1 x.toNatClampNeg y.toNatClampNeg (defaultValue .int) x.toNatClampNeg = F at X' step
  obtain ⟨f1, f2, -, -⟩ := Jvm.Free.Multi.fill_facts (T.setVm vm₁) cs.2.1 cs.1 x.toNatClampNeg y.toNatClampNeg (defaultValue .int) x.toNatClampNeg
  rw [hF, hTh] at f1 f2
  have hold : ∀ q : Nat, q < H.size → F.heap[q]? = H[q]? := fun q hq => by
    have := Jvm.Free.Multi.fill_old (T.setVm vm₁) cs.2.1 cs.1 x.toNatClampNeg y.toNatClampNeg (defaultValue .int) (a := q) (by rw [hTh]; exact hq) x.toNatClampNeg
    rw [hF, hTh] at this
    exact this
  have hrow : ∀ j : Nat, j < x.toNatClampNeg → F.heap[H.size + 1 + j]? = some (vp_cell cs.1 (y.toNatClampNeg, .inl (fun _ => 0))) := fun j hj => by
    have := Jvm.Free.Multi.fill_inner (T.setVm vm₁) cs.2.1 cs.1 x.toNatClampNeg y.toNatClampNeg (defaultValue .int) x.toNatClampNeg j hj
    rw [hF, hTh] at this
    rw [this, vp_cell_i]
    exact congrArg some (arrV_new cs.1 y.toNatClampNeg (.int 0))
  rw [sm_outer] at f2
  obtain ⟨t, a1, b1⟩ := hk F.heap locs ls (hW.nw (by rw [f1, hW.2]; omega) hold (fun i hi => by
    by_cases hi0 : i = 0
    · subst hi0
      rw [sm_e_g (n := x.toNatClampNeg) (by rw [sm_nwk]; rfl), sm_nwr]
      show F.heap[b + (h.1 + 0)]? = some (vp_cell _ _)
      rw [vp_cell_q, Nat.add_zero, ← hW.2, f2]
      refine congrArg some (congrArg (arrV cs.2.1 x.toNatClampNeg) (funext fun j => ?_))
      by_cases hj : j < x.toNatClampNeg
      · simp [hj, hW.2, Nat.add_assoc]
      · simp [hj]
    · rw [sm_e_i (n := y.toNatClampNeg) (by rw [sm_nwk, if_neg hi0]), sm_nwi]
      have h5 := hrow (i - 1) (by omega)
      rw [hW.2] at h5
      have e5 : b + h.1 + 1 + (i - 1) = b + (h.1 + i) := by omega
      rw [e5] at h5
      exact h5)) (sm_S.nw hS (by rw [f1]; omega) hold) hl F rfl X'
  refine ⟨t, step t ?_, b1⟩
  have e5 : T.heap.size = b + h.1 := by rw [hT, hW.2]
  rw [e5]
  exact a1
end SMN
end
section
/-! The rules that return and call; then the whole. -/
section SMC
variable {p : Program} {l : Launch} {e : Env} {R : Room} {s : State} {m : MethodId} {args : Array Value} {below : List Frame} {meth : Method} {c : Code} {Qf : State → Prop} {b : Nat} {D : va_G} {cs : ClassId × ClassId × ClassId} {M : sm_M} {d mc ms : Nat} {Q : sm_Q}
/-- behind a call -/
theorem sm_after {Qx : sm_Q} {H : Heap} {locs : List Loc} {k n mc' ms' pc : Nat} {ls : Array Slot} {st0 rest : List Value} {a : Array Value} (hr : va_Run p l e R s m args below meth c H locs k n mc' ms' (F0 m pc ls st0) rest (sm_Post b D cs Qx a) (sm_A b)) (hS : va_S (sm_A b) s.heap H locs)
    (kk : ∀ (r : Option Value) (h' : sm_H) (H1 : Heap) (locs1 : List Loc), Qx r h' → sm_W b D cs h' H1 → va_S (sm_A b) s.heap H1 locs1 → W p l e R s m args below meth c H1 locs1 (k + mc') (n + ms') Qf (F0 m (pc + 3) ls ((r.map (sm_v b)).toList ++ rest))) : W p l e R s m args below meth c H locs k n Qf (F0 m pc ls st0) := by
  intro T hT X
  obtain ⟨v, st₀, t, T', L, h0, X', hL, e1, e2, ⟨⟨r, h', hv, hq, hW⟩, hz, hk⟩, st⟩ := hr T hT X
  cases hv
  rw [h0] at hz hk
  obtain ⟨t2, a1, b1⟩ := kk r h' T'.heap (locs ++ L) hq (by rw [e1]; exact hW)
    ⟨Nat.le_trans hS.1 (by rw [e1]; exact hz), fun q h1 h2 => by rw [e1, hk q (Nat.lt_of_lt_of_le h1 hS.1) h2]; exact hS.2.1 q h1 h2, fun q hq => by
      rcases List.mem_append.mp hq with h | h
      · exact hS.2.2 q h
      · exact hL q h⟩ T' rfl X'
  exact ⟨t2, st t2 a1, b1⟩
theorem sm_rm_ok (X : sm_X b D cs p R s m args meth c M d mc ms) {M' : sm_M} {n : Nat} (h : sm_LB M' n) (mc' ms' : Nat) : (sm_rm d mc' ms').frames + 1 ≤ R.frames ∧ 8 + (M'.2.2.1 + 11) + (sm_rm d mc' ms').locals ≤ R.locals := by
  obtain ⟨-, -, -, -, -, -, -, ⟨h1, h2, -⟩, -⟩ := X
  obtain ⟨-, -, -, -, h3⟩ := h
  refine ⟨h1, ?_⟩
  show 8 + (M'.2.2.1 + 11) + 40 * d ≤ R.locals
  omega
theorem sm_preU (X : sm_X b D cs p R s m args meth c M d mc ms) {As : List Value} {h : sm_H} {H : Heap} (hW : sm_W b D cs h H) : ∀ U : State, U.heap = H → s.WarmedH U.vm → sm_Pre b D cs As h (As.map (sm_v b)).toArray U := by
  obtain ⟨-, -, -, -, -, ⟨hK, hN⟩, -⟩ := X
  intro U hU hw
  exact ⟨rfl, by rw [hU]; exact hW, va_K.moved hw.alike hK, hN.warm hw⟩
theorem sm_stk (As : List Value) (q : Nat) (st : List Value) : (As.reverse ++ .ref q :: st).map (sm_v b) = (As.map (sm_v b)).reverse ++ .ref (b + q) :: st.map (sm_v b) := by
  rw [List.map_append, List.map_reverse]
  rfl
theorem sm_post_st {r : Option Value} {st : List Value} : (r.map (sm_v b)).toList ++ st.map (sm_v b) = (r.toList ++ st).map (sm_v b) := by
  cases r <;> rfl
theorem sm_r37 (X : sm_X b D cs p R s m args meth c M d mc ms) (ih : sm_So l b D cs d) : sm_rule (sm_c d) mc ms M Q (sm_P0 p l e R s m args below meth c Qf b D cs M) 37 := by
  intro pc idx c0 q mc' ms' M' As L st h k n hd hL hq hc0 hcl hcn hcat hf1 hf2 hcall H locs ls hW hS hl
  have X0 := X
  obtain ⟨hx, hb, hml, ho, ht, ⟨hK, hN⟩, -, ⟨-, -, hrc, hrs⟩, -⟩ := X
  obtain ⟨hB, hlk, hin, hse⟩ := hL
  have hRm := sm_rm_ok X0 hB mc' ms'
  obtain ⟨hpl, hcode, hini, hdd, hmx⟩ := hB
  have hM := ih mc' ms' M' (.ref q :: As) h _ hpl hcall
  have cw : CallW R s args M.1.cls M'.1.cls idx M'.1 M'.2.1 M'.2.2.1 M'.2.2.2 (Cond.code M'.1 M'.2.1 M'.2.2.1 M'.2.2.2 :: sm_tb) (sm_rm d mc' ms') mc' ms' As.length := ⟨callB_of As.length (sm_hts ht) (sm_goodIn hcode rfl (fun _ h => h)) rfl rfl rfl (ht _ hini rfl) (ht _ hlk rfl) hdd hRm, ht _ hin rfl, ht _ hse rfl⟩
  have hrecv := va_recv hK hW.1 hcl (sm_at_o hq hc0)
  rw [hcn] at hrecv
  show W p l e R s m args below meth c H locs k n Qf (F0 m pc ls ((As.reverse ++ .ref q :: st).map (sm_v b)))
  rw [sm_stk]
  refine sm_after (va_runV (As := As.map (sm_v b)) (rest := st.map (sm_v b)) ⟨hx, hb, hml, ho, sm_hts ht⟩ hM cw ⟨sm_blind b D cs _ h, hrecv, sm_preU X0 (As := .ref q :: As) hW⟩ rfl (by rw [List.length_map]) hl.1 rfl (lv_room (sm_vmap hcat)) hd ⟨by rw [hrc]; exact hf1, by rw [hrs]; exact hf2⟩) hS (fun r h' H1 locs1 hQ hW1 hS1 => ?_)
  rw [sm_post_st]
  exact hQ H1 locs1 ls hW1 hS1 hl
theorem sm_r38 (X : sm_X b D cs p R s m args meth c M d mc ms) (ih : sm_So l b D cs d) : sm_rule (sm_c d) mc ms M Q (sm_P0 p l e R s m args below meth c Qf b D cs M) 38 := by
  intro pc idx mc' ms' M' As L st h k n hd hL hcat hf1 hf2 hcall H locs ls hW hS hl
  have X0 := X
  obtain ⟨hx, hb, hml, ho, ht, ⟨hK, hN⟩, -, ⟨-, -, hrc, hrs⟩, -⟩ := X
  obtain ⟨hB, hlk, hst⟩ := hL
  have hRm := sm_rm_ok X0 hB mc' ms'
  obtain ⟨hpl, hcode, hini, hdd, hmx⟩ := hB
  have hM := ih mc' ms' M' As h _ hpl hcall
  have cw : CallB R s args M.1.cls idx M'.1 M'.2.1 M'.2.2.1 M'.2.2.2 (Cond.code M'.1 M'.2.1 M'.2.2.1 M'.2.2.2 :: sm_tb) (sm_rm d mc' ms') mc' ms' As.length ∧ (Cond.static M'.1).before args s = true := ⟨callB_of As.length (sm_hts ht) (sm_goodIn hcode rfl (fun _ h => h)) rfl rfl rfl (ht _ hini rfl) (ht _ hlk rfl) hdd hRm, ht _ hst rfl⟩
  show W p l e R s m args below meth c H locs k n Qf (F0 m pc ls ((As.reverse ++ st).map (sm_v b)))
  rw [List.map_append, List.map_reverse]
  refine sm_after (va_runS (As := As.map (sm_v b)) (rest := st.map (sm_v b)) ⟨hx, hb, hml, ho, sm_hts ht⟩ hM cw ⟨sm_blind b D cs _ h, sm_preU X0 (As := As) hW⟩ rfl (by rw [List.length_map]) hl.1 rfl (lv_room (sm_vmap hcat)) hd ⟨by rw [hrc]; exact hf1, by rw [hrs]; exact hf2⟩) hS (fun r h' H1 locs1 hQ hW1 hS1 => ?_)
  rw [sm_post_st]
  exact hQ H1 locs1 ls hW1 hS1 hl
theorem sm_r39 (X : sm_X b D cs p R s m args meth c M d mc ms) (ih : sm_So l b D cs d) : sm_rule (sm_c d) mc ms M Q (sm_P0 p l e R s m args below meth c Qf b D cs M) 39 := by
  intro pc idx q mc' ms' M' As L st h k n hd hL hcat hf1 hf2 hcall H locs ls hW hS hl
  have X0 := X
  obtain ⟨hx, hb, hml, ho, ht, ⟨hK, hN⟩, -, ⟨-, -, hrc, hrs⟩, -⟩ := X
  obtain ⟨hB, hlk, hin, hnm, hret⟩ := hL
  have hRm := sm_rm_ok X0 hB mc' ms'
  obtain ⟨hpl, hcode, hini, hdd, hmx⟩ := hB
  have hM := ih mc' ms' M' (.ref q :: As) h _ hpl hcall
  rw [hret] at hM hcode
  have cw : CallB R s args M.1.cls idx M'.1 M'.2.1 M'.2.2.1 none (Cond.code M'.1 M'.2.1 M'.2.2.1 none :: sm_tb) (sm_rm d mc' ms') mc' ms' As.length ∧ M'.1.name = "<init>" ∧ (Cond.instanceMethod M'.1).before args s = true := ⟨callB_of As.length (sm_hts ht) (sm_goodIn hcode rfl (fun _ h => h)) rfl rfl rfl (ht _ hini rfl) (ht _ hlk rfl) hdd hRm, hnm, ht _ hin rfl⟩
  show W p l e R s m args below meth c H locs k n Qf (F0 m pc ls ((As.reverse ++ .ref q :: st).map (sm_v b)))
  rw [sm_stk]
  refine sm_after (va_runI (As := As.map (sm_v b)) (rest := st.map (sm_v b)) ⟨hx, hb, hml, ho, sm_hts ht⟩ hM cw ⟨sm_blind b D cs _ h, sm_preU X0 (As := .ref q :: As) hW⟩ rfl (by rw [List.length_map]) hl.1 rfl (lv_room (sm_vmap hcat)) hd ⟨by rw [hrc]; exact hf1, by rw [hrs]; exact hf2⟩) hS (fun r h' H1 locs1 hQ hW1 hS1 => ?_)
  rw [sm_post_st]
  exact hQ H1 locs1 ls hW1 hS1 hl
theorem sm_nst_all : ∀ w ∈ lw_tbl, (∃ a i y, w = .methodLinkNest a i y "SnowInns") → w ∈ sm_nst := by
  have h : ∀ w ∈ lw_tbl, w ∈ sm_nst ∨ (match w with | .methodLinkNest _ _ _ _ => false | _ => true) = true := by decide +kernel
  intro w hw ⟨a, i, y, e⟩
  rcases h w hw with h1 | h1
  · exact h1
  · subst e; cases h1
theorem sm_r40 (X : sm_X b D cs p R s m args meth c M d mc ms) (ih : sm_So l b D cs d) : sm_rule (sm_c d) mc ms M Q (sm_P0 p l e R s m args below meth c Qf b D cs M) 40 := by
  intro pc idx q mc' ms' M' As L st h k n hd hL hcat hf1 hf2 hcall H locs ls hW hS hl
  have X0 := X
  obtain ⟨hx, hb, hml, ho, ht, ⟨hK, hN⟩, -, ⟨-, -, hrc, hrs⟩, -⟩ := X
  obtain ⟨hB, hlk, hin, hnm, hret⟩ := hL
  have hRm := sm_rm_ok X0 hB mc' ms'
  obtain ⟨hpl, hcode, hini, hdd, hmx⟩ := hB
  have hM := ih mc' ms' M' (.ref q :: As) h _ hpl hcall
  rw [hret] at hM hcode
  have hlk2 := hN.1 _ (sm_nst_all _ hlk ⟨_, _, _, rfl⟩)
  have cw : va_CN R s args M.1.cls idx M'.1 "SnowInns" M'.2.1 M'.2.2.1 none (Cond.code M'.1 M'.2.1 M'.2.2.1 none :: sm_tb) (sm_rm d mc' ms') mc' ms' As.length ∧ M'.1.name = "<init>" ∧ (Cond.instanceMethod M'.1).before args s = true := ⟨va_cnB As.length (sm_hts ht) (sm_goodIn hcode rfl (fun _ h => h)) rfl rfl rfl hlk2 (ht _ hini rfl) hdd hRm, hnm, ht _ hin rfl⟩
  show W p l e R s m args below meth c H locs k n Qf (F0 m pc ls ((As.reverse ++ .ref q :: st).map (sm_v b)))
  rw [sm_stk]
  refine sm_after (va_runIN (As := As.map (sm_v b)) (rest := st.map (sm_v b)) ⟨hx, hb, hml, ho, sm_hts ht⟩ hM cw ⟨sm_blind b D cs _ h, sm_preU X0 (As := .ref q :: As) hW⟩ rfl (by rw [List.length_map]) hl.1 rfl (lv_room (sm_vmap hcat)) hd ⟨by rw [hrc]; exact hf1, by rw [hrs]; exact hf2⟩) hS (fun r h' H1 locs1 hQ hW1 hS1 => ?_)
  rw [sm_post_st]
  exact hQ H1 locs1 ls hW1 hS1 hl
theorem sm_r41 (X : sm_X b D cs p R s m args meth c M d mc ms) : sm_rule (sm_c d) mc ms M Q (sm_P0 p l e R s m args below meth c Qf b D cs M) 41 := by
  obtain ⟨hx, hb, hml, ho, ht, ⟨hK, hN⟩, -, ⟨h1, h2, hrc, hrs⟩, -⟩ := X
  intro pc idx q L st h k n hd hlk hcat hk H locs ls hW hS hl
  have h5 := sm_vmap (b := b) hcat
  exact W.objInit hx hb ho (ht _ hlk rfl) (ht _ sm_mOI rfl) (ht _ sm_mOC rfl) rfl (by rw [hml]; exact hl.1) rfl hd (by omega) (by show 2 * 0 + _ + 12 ≤ _; omega) (hk H locs ls hW hS hl)
theorem sm_r42 (X : sm_X b D cs p R s m args meth c M d mc ms) : sm_rule (sm_c d) mc ms M Q (sm_P0 p l e R s m args below meth c Qf b D cs M) 42 := by
  obtain ⟨hx, hb, hml, ho, ht, ⟨hK, hN⟩, -, ⟨h1, h2, hrc, hrs⟩, -⟩ := X
  intro pc idx x y L st h k n hd hlk hcat hc1 hs1 hk H locs ls hW hS hl
  have h5 := sm_vmap (b := b) hcat
  exact va_mmin hx hb (by rw [hml]; exact hl.1.symm) ho (ht _ hlk rfl) (ht _ sm_mMis rfl) (ht _ sm_mMI rfl) (ht _ sm_mMi rfl) (by omega) (by omega) (by omega) (by omega) hd (hk H locs ls hW hS hl)
theorem sm_r43 (X : sm_X b D cs p R s m args meth c M d mc ms) : sm_rule (sm_c d) mc ms M Q (sm_P0 p l e R s m args below meth c Qf b D cs M) 43 := by
  obtain ⟨hx, hb, hml, ho, ht, ⟨hK, hN⟩, -, ⟨h1, h2, hrc, hrs⟩, -⟩ := X
  intro pc idx x y L st h k n hd hlk hcat hc1 hs1 hk H locs ls hW hS hl
  have h5 := sm_vmap (b := b) hcat
  exact va_mmax hx hb (by rw [hml]; exact hl.1.symm) ho (ht _ hlk rfl) (ht _ sm_mMas rfl) (ht _ sm_mMI rfl) (ht _ sm_mMa rfl) (by omega) (by omega) (by omega) (by omega) hd (hk H locs ls hW hS hl)
theorem sm_nfw : nativeFrameWords "java/lang/System" "arraycopy" 5 ≤ 21 := by decide +kernel
theorem sm_r44 (X : sm_X b D cs p R s m args meth c M d mc ms) : sm_rule (sm_c d) mc ms M Q (sm_P0 p l e R s m args below meth c Qf b D cs M) 44 := by
  obtain ⟨hx, hb, hml, ho, ht, ⟨hK, hN⟩, -, ⟨hr1, hr2, hrc, hrs⟩, -⟩ := X
  intro pc idx q0 q1 n0 n1 sp dp x L st h k n hd hlk hq0 hq1 hk0 hk1 h1 h2 h3 h4 h5 hcat hk H locs ls hW hS hl
  have h6 := sm_vmap (b := b) hcat
  have h7 := sm_nfw
  have nn : ∀ z : Int32, ¬ z < 0 → z.toInt = (z.toNatClampNeg : Int) := by
    intro z hz
    have hz0 : (0 : Int) ≤ z.toInt := by
      have := Int32.not_lt.mp hz
      simpa using Int32.le_iff_toInt_le.mp this
    show z.toInt = ((z.toInt.toNat : Nat) : Int)
    omega
  intro T hT Xs
  have hc0 : H[b + q0]? = some (vp_cell cs.1 (n0, .inl (h.2.2.1 q0))) := hW.1 q0 _ (sm_at_i hq0 hk0)
  have hc1 : H[b + q1]? = some (vp_cell cs.1 (n1, .inl (h.2.2.1 q1))) := hW.1 q1 _ (sm_at_i hq1 hk1)
  obtain ⟨-, k0, hkk0, cm0, hkd0⟩ := (hK.2 0 _ rfl).1 n0 (fun j => .int (h.2.2.1 q0 j))
  obtain ⟨vm', X', step⟩ := Xs.arraycopy hx ho (ht _ hlk rfl) (ht _ sm_mSN rfl) (ht _ sm_mSS rfl) (ht _ sm_mSI rfl) (src := b + q0) (dst := b + q1) (cs := vp_cell cs.1 (n0, .inl (h.2.2.1 q0))) (cd := vp_cell cs.1 (n1, .inl (h.2.2.1 q1))) (srcPos := sp) (destPos := dp) (n := x) (by rw [hT]; exact hc0) (by rw [hT]; exact hc1)
    (fun _ h => by cases h) (fun _ h => by cases h) (fun h => by cases h) (fun h => by cases h) hkk0 hkk0 hkd0 hkd0 (by simp [refKind]) h1 h2 h3
    (by rw [nn sp h1, nn x h3]; show ¬ _ > ((arrV cs.1 n0 (fun j => .int (h.2.2.1 q0 j))).slots.size : Int); rw [arrV_size]; omega)
    (by rw [nn dp h2, nn x h3]; show ¬ _ > ((arrV cs.1 n1 (fun j => .int (h.2.2.1 q1 j))).slots.size : Int); rw [arrV_size]; omega)
    (fun vm₁ _ i hi => by
      have e : (vp_cell cs.1 (n0, .inl (h.2.2.1 q0))).slots.getD (sp.toNatClampNeg + i) .null = .int (h.2.2.1 q0 (sp.toNatClampNeg + i)) := by
        show (arrV cs.1 n0 (fun j => .int (h.2.2.1 q0 j))).slots.getD _ _ = _
        rw [Array.getD_eq_getD_getElem?, arrV_read _ _ (by omega)]
        rfl
      refine ⟨?_, ?_⟩
      · rw [e]; rfl
      · rw [e]; exact trivial)
    (g := F0 m pc ls (.int x :: .int dp :: .ref (b + q1) :: .int sp :: .ref (b + q0) :: st.map (sm_v b))) rfl (by rw [hml]; exact hl.1) (rest := st.map (sm_v b)) rfl (by rw [hb]; exact hd) (by omega) (by show 2 * 0 + _ + _ ≤ _; omega)
  have e1 : copied (vp_cell cs.1 (n0, .inl (h.2.2.1 q0))) (vp_cell cs.1 (n1, .inl (h.2.2.1 q1))) sp dp x = vp_cell cs.1 (n1, .inl (va_cpy (h.2.2.1 q0) (h.2.2.1 q1) sp.toNatClampNeg dp.toNatClampNeg x.toNatClampNeg)) := va_copied (fun z => .int z) cs.1 cs.1 (h.2.2.1 q0) (h.2.2.1 q1) h4
  rw [e1] at X' step
  have hll : b + q1 < H.size := (Array.getElem?_eq_some_iff.mp hc1).1
  generalize hF : va_cpy (h.2.2.1 q0) (h.2.2.1 q1) sp.toNatClampNeg dp.toNatClampNeg x.toNatClampNeg = f at X' step hk
  have hheap : ((T.setVm vm').setCell (b + q1) (vp_cell cs.1 (n1, .inl f))).heap = H.setIfInBounds (b + q1) (vp_cell cs.1 (n1, .inl f)) := by rw [← hT]; rfl
  have oq : ∀ q : Nat, q ≠ b + q1 → (H.setIfInBounds (b + q1) (vp_cell cs.1 (n1, .inl f)))[q]? = H[q]? := fun q hq => by simp [Array.getElem?_setIfInBounds, Ne.symm hq]
  obtain ⟨t, a1, b1⟩ := hk _ _ ls (hW.put hq1 (sm_e_i hk1) rfl (h' := sm_sw h q1 f) (x := .inl (cs.1, n1, .inl f)) (by rw [sm_e_i (n := n1) (show (sm_sw h q1 f).2.1 q1 = (0, n1) from hk1)]; show (Sum.inl (cs.1, n1, Sum.inl (if q1 = q1 then f else h.2.2.1 q1)) : va_E) = _; rw [if_pos rfl]) (fun r hr => sm_e_sw hr) (show (H.setIfInBounds (b + q1) _)[b + q1]? = some _ by simp [Array.getElem?_setIfInBounds, hll]) (by simp) oq) ⟨by simp; exact hS.1, fun q g1 g2 => by
      rw [oq q (fun e => g2 (by rw [e]; exact Nat.le_add_right b q1))]
      exact hS.2.1 q g1 g2, fun q hq => by
      rcases List.mem_append.mp hq with h | h
      · exact hS.2.2 q h
      · obtain ⟨z, -, hz⟩ := List.mem_map.mp h
        rw [← hz]
        exact Nat.le_add_right b q1⟩ hl _ hheap X'
  exact ⟨t, step t a1, b1⟩
/-- the rules but the returns -/
theorem sm_rall (X : sm_X b D cs p R s m args meth c M d mc ms) (ih : sm_So l b D cs d) (hret : ∀ k, k = 20 ∨ k = 21 ∨ k = 22 → sm_rule (sm_c d) mc ms M Q (sm_P0 p l e R s m args below meth c Qf b D cs M) k) : ∀ k, sm_rule (sm_c d) mc ms M Q (sm_P0 p l e R s m args below meth c Qf b D cs M) k
  | 0 => sm_r0 X
  | 1 => sm_r1 X
  | 2 => sm_r2 X
  | 3 => sm_r3 X
  | 4 => sm_r4 X
  | 5 => sm_r5 X
  | 6 => sm_r6 X
  | 7 => sm_r7 X
  | 8 => sm_r8 X
  | 9 => sm_r9 X
  | 10 => sm_r10 X
  | 11 => sm_r11 X
  | 12 => sm_r12 X
  | 13 => sm_r13 X
  | 14 => sm_r14 X
  | 15 => sm_r15 X
  | 16 => sm_r16 X
  | 17 => sm_r17 X
  | 18 => sm_r18 X
  | 19 => sm_r19 X
  | 20 => hret 20 (by omega)
  | 21 => hret 21 (by omega)
  | 22 => hret 22 (by omega)
  | 23 => sm_r23 X
  | 24 => sm_r24 X
  | 25 => sm_r25 X
  | 26 => sm_r26 X
  | 27 => sm_r27 X
  | 28 => sm_r28 X
  | 29 => sm_r29 X
  | 30 => sm_r30 X
  | 31 => sm_r31 X
  | 32 => sm_r32 X
  | 33 => sm_r33 X
  | 34 => sm_r34 X
  | 35 => sm_r35 X
  | 36 => sm_r36 X
  | 37 => sm_r37 X ih
  | 38 => sm_r38 X ih
  | 39 => sm_r39 X ih
  | 40 => sm_r40 X ih
  | 41 => sm_r41 X
  | 42 => sm_r42 X
  | 43 => sm_r43 X
  | 44 => sm_r44 X
  | 45 => sm_r45 X
  | 46 => sm_r46 X
  | 47 => sm_r47 X
  | 48 => sm_r48 X
  | _ + 49 => trivial
theorem sm_en_at {n : Nat} : ∀ (vs : List Value) (i : Nat) (v : Value), (sm_fl vs)[i]? = some v → v ≠ .null → (lg_sl (vs.map (sm_v b)))[i]? = some (.val (sm_v b v))
  | [], i, v, h, _ => by simp [sm_fl] at h
  | w :: vs, i, v, h, hv => by
    have ih := sm_en_at (n := n) vs
    unfold sm_fl lg_sl at *
    rw [List.map_cons, List.flatMap_cons, sm_v_cat]
    rw [List.flatMap_cons] at h
    by_cases hc : w.category = 2
    · rw [if_pos hc] at h ⊢
      match i, h with
      | 0, h => cases h; rfl
      | 1, h => cases h; exact absurd rfl hv
      | i + 2, h => exact ih i v h hv
    · rw [if_neg hc] at h ⊢
      match i, h with
      | 0, h => cases h; rfl
      | i + 1, h => exact ih i v h hv
theorem sm_fl_len (vs : List Value) : (lg_sl (vs.map (sm_v b))).length = (sm_fl vs).length := by
  induction vs with
  | nil => rfl
  | cons w vs ih =>
    unfold sm_fl lg_sl at *
    rw [List.map_cons, List.flatMap_cons, List.flatMap_cons, List.length_append, List.length_append, ih, sm_v_cat]
    by_cases hc : w.category = 2
    · rw [if_pos hc, if_pos hc]; rfl
    · rw [if_neg hc, if_neg hc]; rfl
theorem sm_entry (vs : List Value) {n : Nat} (h : (sm_fl vs).length ≤ n) : sm_L b ((lg_sl (vs.map (sm_v b)) ++ List.replicate (n - (lg_sl (vs.map (sm_v b))).length) Slot.unset).toArray) n (sm_en vs n) := by
  have hl := lv_entry (vs.map (sm_v b)) (n := n) (by rw [sm_fl_len]; exact h)
  refine ⟨hl.1, hl.2.1, by unfold sm_en; rw [List.length_append, List.length_replicate]; omega, fun i v hi hv => ?_⟩
  unfold sm_en at hi
  by_cases hc : i < (sm_fl vs).length
  · rw [List.getElem?_append_left hc] at hi
    have h1 := sm_en_at (b := b) (n := n) vs i v hi hv
    rw [List.getElem?_toArray, List.getElem?_append_left (by rw [sm_fl_len]; exact hc)]
    exact h1
  · rw [List.getElem?_append_right (by omega)] at hi
    have := List.eq_of_mem_replicate (List.mem_of_getElem? hi)
    exact absurd this hv
/-- SOUND: what the small machine says of a method, the machine does -/
theorem sm_sound (l : Launch) (b : Nat) (D : va_G) (cs : ClassId × ClassId × ClassId) : ∀ d, sm_So l b D cs d
  | 0 => fun _ _ _ _ _ _ _ h => False.elim h
  | d + 1 => by
    intro mc ms M args h Q hpl hc
    obtain ⟨hlen, hwp⟩ := hc
    refine Met.ofW (cc := M.2.1) (maxL := M.2.2.1) (ret := M.2.2.2) hpl rfl ?_
    intro p e s m args' below meth c s₁ B hml hv
    obtain ⟨rfl, hW, hK, hN⟩ := hv
    have hts := atoms_spec (ws := Cond.code M.1 M.2.1 M.2.2.1 M.2.2.2 :: sm_tb) B.pre
    have X : sm_X b D cs p (headSpec (Cond.code M.1 M.2.1 M.2.2.1 M.2.2.2 :: sm_tb) (sm_rm (d + 1) mc ms)).room s m (args.map (sm_v b)).toArray meth c M d mc ms := ⟨B.exec, B.bytes, hml, findClass_of_methodNamed B.named, fun w hw hg => hts w (List.mem_cons_of_mem _ (sm_tbm hw hg)), ⟨hK, hN⟩, (name_of_methodNamed B.named B.method).1, ⟨Nat.le_refl _, Nat.le_refl _, rfl, rfl⟩, by rw [hW.2]; exact Nat.le_add_right _ _⟩
    have hlocks := B.notSynchronized
    have hr := B.returns
    have hx := B.exec
    have hb := B.bytes
    have key := hwp _ (sm_rall (Qf := MQ below (sm_Post b D cs Q) (args.map (sm_v b)).toArray s mc ms (sm_A b)) (below := below) (e := e) X (sm_sound l b D cs d) (fun k hk => by
      rcases hk with rfl | rfl | rfl
      · intro pc ty v L h' k n hd hty hnv hk hn hq H locs ls hW' hS hl
        refine W.widen hk hn ?_
        exact W.zret hx hb (hr.trans hty) hnv (fun t ht hw => ⟨⟨some (.int v), h', rfl, hq, by rw [ht]; exact hW'⟩, hS.F ht⟩) hS.2.2 hd
      · intro pc v L h' k n hd hty hk hn hq H locs ls hW' hS hl
        refine W.widen hk hn ?_
        exact W.lret hx hb (hr.trans hty) (fun t ht hw => ⟨⟨some (.long v), h', rfl, hq, by rw [ht]; exact hW'⟩, hS.F ht⟩) hS.2.2 hd
      · intro pc L h' k n hd hty hk hn hq H locs ls hW' hS hl
        refine W.widen hk hn ?_
        exact W.vret hx hb (hr.trans hty) (fun t ht hw => ⟨⟨none, h', rfl, hq, by rw [ht]; exact hW'⟩, hS.F ht⟩) hS.2.2 hd))
    rw [lg_entry_eq]
    exact key s.heap [] _ hW va_S.rf (sm_entry args hlen)
end SMC
end
section
abbrev MX6_init : sm_M := (yX6_init, cX6_init, 2, none)
abbrev MX2_init : sm_M := (yX2_init, cX2_init, 1, none)
abbrev MX0_init : sm_M := (yX0_init, cX0_init, 2, none)
abbrev MX1_init : sm_M := (yX1_init, cX1_init, 1, none)
abbrev MX5_init : sm_M := (yX5_init, cX5_init, 3, none)
abbrev MX3_init : sm_M := (yX3_init, cX3_init, 1, none)
abbrev MX6_ridge : sm_M := (yX6_ridge, cX6_ridge, 7, (some .int))
abbrev MX6_isSheet : sm_M := (yX6_isSheet, cX6_isSheet, 1, (some .boolean))
abbrev MX6_isLane : sm_M := (yX6_isLane, cX6_isLane, 1, (some .boolean))
abbrev MX3_faultOfRow : sm_M := (yX3_faultOfRow, cX3_faultOfRow, 5, (some .int))
abbrev MX3_faultOfLane : sm_M := (yX3_faultOfLane, cX3_faultOfLane, 2, (some .int))
abbrev MX3_isThere : sm_M := (yX3_isThere, cX3_isThere, 1, (some .boolean))
abbrev MX3_hasCells : sm_M := (yX3_hasCells, cX3_hasCells, 3, (some .boolean))
abbrev MX6_faulted : sm_M := (yX6_faulted, cX6_faulted, 2, (some .int))
abbrev MX4_init : sm_M := (yX4_init, cX4_init, 4, none)
abbrev MX4_readInto : sm_M := (yX4_readInto, cX4_readInto, 2, (some .boolean))
abbrev MX2_clear : sm_M := (yX2_clear, cX2_clear, 1, none)
abbrev MX4_takes : sm_M := (yX4_takes, cX4_takes, 2, (some .boolean))
abbrev MX4_readInns : sm_M := (yX4_readInns, cX4_readInns, 4, (some .boolean))
abbrev MX4_takeKind : sm_M := (yX4_takeKind, cX4_takeKind, 1, (some .int))
abbrev MX4_takeDigit : sm_M := (yX4_takeDigit, cX4_takeDigit, 3, (some .int))
abbrev MX4_readNights : sm_M := (yX4_readNights, cX4_readNights, 4, (some .boolean))
abbrev MX4_readGuests : sm_M := (yX4_readGuests, cX4_readGuests, 4, (some .boolean))
abbrev MX4_place : sm_M := (yX4_place, cX4_place, 1, (some .int))
abbrev MX2_become : sm_M := (yX2_become, cX2_become, 2, none)
abbrev MX1_clear : sm_M := (yX1_clear, cX1_clear, 1, none)
abbrev MX6_ofInn : sm_M := (yX6_ofInn, cX6_ofInn, 3, (some .int))
abbrev MX2_hasInn : sm_M := (yX2_hasInn, cX2_hasInn, 2, (some .boolean))
abbrev MX2_keepsBy : sm_M := (yX2_keepsBy, cX2_keepsBy, 3, (some .int))
abbrev MX6_ofGuest : sm_M := (yX6_ofGuest, cX6_ofGuest, 3, (some .int))
abbrev MX2_hasGuest : sm_M := (yX2_hasGuest, cX2_hasGuest, 2, (some .boolean))
abbrev MX6_ofNight : sm_M := (yX6_ofNight, cX6_ofNight, 3, (some .int))
abbrev MX2_stands : sm_M := (yX2_stands, cX2_stands, 1, (some .boolean))
abbrev MX2_hasNight : sm_M := (yX2_hasNight, cX2_hasNight, 2, (some .boolean))
abbrev MX6_rule : sm_M := (yX6_rule, cX6_rule, 3, (some .int))
abbrev MX6_fall : sm_M := (yX6_fall, cX6_fall, 4, (some .int))
abbrev MX6_gust : sm_M := (yX6_gust, cX6_gust, 5, (some .int))
abbrev MX6_lodge : sm_M := (yX6_lodge, cX6_lodge, 4, (some .int))
abbrev MX6_sweep : sm_M := (yX6_sweep, cX6_sweep, 5, (some .int))
abbrev MX2_sweepOver : sm_M := (yX2_sweepOver, cX2_sweepOver, 6, (some .int))
abbrev MJ9_min_7cf53 : sm_M := (yJ9_min_7cf53, cJ9_min_7cf53, 2, (some .int))
abbrev MX6_where : sm_M := (yX6_where, cX6_where, 3, (some .int))
abbrev MX2_countsNights : sm_M := (yX2_countsNights, cX2_countsNights, 2, (some .boolean))
abbrev MX0_run : sm_M := (yX0_run, cX0_run, 3, none)
abbrev MX0_begin : sm_M := (yX0_begin, cX0_begin, 2, none)
abbrev MX0_pass : sm_M := (yX0_pass, cX0_pass, 10, none)
abbrev MX0_snow : sm_M := (yX0_snow, cX0_snow, 5, none)
abbrev MJ9_max_7cf53 : sm_M := (yJ9_max_7cf53, cJ9_max_7cf53, 2, (some .int))
abbrev MX2_roomBy : sm_M := (yX2_roomBy, cX2_roomBy, 4, (some .int))
abbrev MX0_keptOf : sm_M := (yX0_keptOf, cX0_keptOf, 5, (some .int))
abbrev MJ6_bitCount_0f7a4 : sm_M := (yJ6_bitCount_0f7a4, cJ6_bitCount_0f7a4, 1, (some .int))
abbrev MX0_withoutLeast : sm_M := (yX0_withoutLeast, cX0_withoutLeast, 4, (some .int))
abbrev MX0_placeOf : sm_M := (yX0_placeOf, cX0_placeOf, 4, (some .int))
abbrev MX0_isAt : sm_M := (yX0_isAt, cX0_isAt, 4, (some .boolean))
abbrev MX6_deep : sm_M := (yX6_deep, cX6_deep, 3, (some .int))
abbrev MX6_beds : sm_M := (yX6_beds, cX6_beds, 3, (some .int))
abbrev MX2_hasInnOrRoad : sm_M := (yX2_hasInnOrRoad, cX2_hasInnOrRoad, 2, (some .boolean))
abbrev MX6_list : sm_M := (yX6_list, cX6_list, 7, (some .int))
abbrev MX6_firstElsewhere : sm_M := (yX6_firstElsewhere, cX6_firstElsewhere, 6, (some .int))
abbrev MX6_meet : sm_M := (yX6_meet, cX6_meet, 3, (some .int))
abbrev MX2_membersOf : sm_M := (yX2_membersOf, cX2_membersOf, 4, (some .int))
abbrev MX0_firstMeeting : sm_M := (yX0_firstMeeting, cX0_firstMeeting, 4, (some .int))
abbrev MX0_isMeeting : sm_M := (yX0_isMeeting, cX0_isMeeting, 4, (some .boolean))
abbrev MX6_least : sm_M := (yX6_least, cX6_least, 3, (some .int))
abbrev MX5_leastSweep : sm_M := (yX5_leastSweep, cX5_leastSweep, 6, (some .int))
abbrev MX0_leaveRoadEmpty : sm_M := (yX0_leaveRoadEmpty, cX0_leaveRoadEmpty, 3, (some .boolean))
abbrev MX0_onRoad : sm_M := (yX0_onRoad, cX0_onRoad, 2, (some .int))
abbrev MX5_sweepEmptiesRoad : sm_M := (yX5_sweepEmptiesRoad, cX5_sweepEmptiesRoad, 5, (some .boolean))
abbrev MX6_turn : sm_M := (yX6_turn, cX6_turn, 4, (some .int))
abbrev MX5_firstTurn : sm_M := (yX5_firstTurn, cX5_firstTurn, 4, (some .int))
abbrev MX6_corks : sm_M := (yX6_corks, cX6_corks, 2, (some .int))
abbrev MX5_innsThatCork : sm_M := (yX5_innsThatCork, cX5_innsThatCork, 5, (some .int))
abbrev MX5_manyOnRoad : sm_M := (yX5_manyOnRoad, cX5_manyOnRoad, 2, (some .int))
abbrev MX6_reading : sm_M := (yX6_reading, cX6_reading, 4, (some .int))
abbrev MX1_add : sm_M := (yX1_add, cX1_add, 4, (some .int))
abbrev MX6_back : sm_M := (yX6_back, cX6_back, 2, (some .int))
abbrev MX6_rules : sm_M := (yX6_rules, cX6_rules, 1, (some .int))
abbrev MX5_rulesThatFit : sm_M := (yX5_rulesThatFit, cX5_rulesThatFit, 3, (some .int))
abbrev MX5_bitIfFit : sm_M := (yX5_bitIfFit, cX5_bitIfFit, 2, (some .int))
abbrev MX1_areSo : sm_M := (yX1_areSo, cX1_areSo, 3, (some .boolean))
abbrev MX6_kinds : sm_M := (yX6_kinds, cX6_kinds, 2, (some .int))
abbrev MX5_kindsThatFit : sm_M := (yX5_kindsThatFit, cX5_kindsThatFit, 4, (some .int))
abbrev MX6_depths : sm_M := (yX6_depths, cX6_depths, 2, (some .int))
abbrev MX5_depthsThatFit : sm_M := (yX5_depthsThatFit, cX5_depthsThatFit, 4, (some .int))
abbrev MX6_falls : sm_M := (yX6_falls, cX6_falls, 2, (some .int))
abbrev MX5_fallsThatFit : sm_M := (yX5_fallsThatFit, cX5_fallsThatFit, 4, (some .int))
abbrev MX6_odds : sm_M := (yX6_odds, cX6_odds, 8, (some .long))
abbrev MX5_windsThatMeet : sm_M := (yX5_windsThatMeet, cX5_windsThatMeet, 3, (some .int))
abbrev MX5_meetingWinds : sm_M := (yX5_meetingWinds, cX5_meetingWinds, 6, (some .int))
abbrev MX6_sheet : sm_M := (yX6_sheet, cX6_sheet, 4, (some .int))
abbrev MX3_renew : sm_M := (yX3_renew, cX3_renew, 4, none)
abbrev MX6_lose : sm_M := (yX6_lose, cX6_lose, 3, (some .int))
abbrev MX3_clear : sm_M := (yX3_clear, cX3_clear, 1, none)
abbrev MX6_put : sm_M := (yX6_put, cX6_put, 4, (some .int))
abbrev MX3_hasCell : sm_M := (yX3_hasCell, cX3_hasCell, 2, (some .boolean))
abbrev MX3_write : sm_M := (yX3_write, cX3_write, 3, none)
abbrev MX6_cell : sm_M := (yX6_cell, cX6_cell, 4, (some .long))
abbrev MX3_faultOfCell : sm_M := (yX3_faultOfCell, cX3_faultOfCell, 4, (some .int))
abbrev MX6_copy : sm_M := (yX6_copy, cX6_copy, 8, (some .int))
abbrev MX6_tell : sm_M := (yX6_tell, cX6_tell, 2, (some .int))
abbrev MX6_castleTelling : sm_M := (yX6_castleTelling, cX6_castleTelling, 2, (some .int))
abbrev MX6_beginBody : sm_M := (yX6_beginBody, cX6_beginBody, 2, none)
abbrev MX6_lodgeTelling : sm_M := (yX6_lodgeTelling, cX6_lodgeTelling, 2, (some .int))
abbrev MX6_innTelling : sm_M := (yX6_innTelling, cX6_innTelling, 2, (some .int))
abbrev MX6_light : sm_M := (yX6_light, cX6_light, 2, (some .int))
abbrev MX6_castleLight : sm_M := (yX6_castleLight, cX6_castleLight, 1, (some .int))
abbrev MX6_lentLight : sm_M := (yX6_lentLight, cX6_lentLight, 2, (some .int))
abbrev MX6_as : sm_M := (yX6_as, cX6_as, 3, (some .int))
abbrev MX6_trace : sm_M := (yX6_trace, cX6_trace, 1, (some .int))
abbrev MX6_fault : sm_M := (yX6_fault, cX6_fault, 1, (some .int))
abbrev MX6_many : sm_M := (yX6_many, cX6_many, 2, (some .int))
abbrev MX7_init : sm_M := (yX7_init, cX7_init, 2, none)
abbrev MX7_ridge : sm_M := (yX7_ridge, cX7_ridge, 7, (some .int))
abbrev MX7_noSheet : sm_M := (yX7_noSheet, cX7_noSheet, 1, (some .boolean))
abbrev MX7_in : sm_M := (yX7_in, cX7_in, 6, (some .boolean))
abbrev MX7_refused : sm_M := (yX7_refused, cX7_refused, 2, (some .int))
abbrev MX7_cellsBarred : sm_M := (yX7_cellsBarred, cX7_cellsBarred, 6, (some .int))
abbrev MX7_failed : sm_M := (yX7_failed, cX7_failed, 2, (some .int))
abbrev MX7_isBeyond : sm_M := (yX7_isBeyond, cX7_isBeyond, 4, (some .boolean))
abbrev MX7_readsRidge : sm_M := (yX7_readsRidge, cX7_readsRidge, 4, (some .boolean))
abbrev MX7_codeAt : sm_M := (yX7_codeAt, cX7_codeAt, 3, (some .int))
abbrev MX7_readsInn : sm_M := (yX7_readsInn, cX7_readsInn, 5, (some .boolean))
abbrev MX7_figure : sm_M := (yX7_figure, cX7_figure, 7, (some .int))
abbrev MX7_readsNight : sm_M := (yX7_readsNight, cX7_readsNight, 5, (some .boolean))
abbrev MX7_readsGuest : sm_M := (yX7_readsGuest, cX7_readsGuest, 5, (some .boolean))
abbrev MX7_ofInn : sm_M := (yX7_ofInn, cX7_ofInn, 3, (some .int))
abbrev MX7_noInn : sm_M := (yX7_noInn, cX7_noInn, 2, (some .boolean))
abbrev MX7_keepsBy : sm_M := (yX7_keepsBy, cX7_keepsBy, 4, (some .int))
abbrev MX7_ofGuest : sm_M := (yX7_ofGuest, cX7_ofGuest, 3, (some .int))
abbrev MX7_noGuest : sm_M := (yX7_noGuest, cX7_noGuest, 2, (some .boolean))
abbrev MX7_ofNight : sm_M := (yX7_ofNight, cX7_ofNight, 3, (some .int))
abbrev MX7_noNight : sm_M := (yX7_noNight, cX7_noNight, 2, (some .boolean))
abbrev MX7_rule : sm_M := (yX7_rule, cX7_rule, 3, (some .int))
abbrev MX7_fall : sm_M := (yX7_fall, cX7_fall, 4, (some .int))
abbrev MX7_gust : sm_M := (yX7_gust, cX7_gust, 4, (some .int))
abbrev MX7_lodge : sm_M := (yX7_lodge, cX7_lodge, 4, (some .int))
abbrev MX7_sweep : sm_M := (yX7_sweep, cX7_sweep, 5, (some .int))
abbrev MX7_swept : sm_M := (yX7_swept, cX7_swept, 6, (some .int))
abbrev MX7_where : sm_M := (yX7_where, cX7_where, 3, (some .int))
abbrev MX7_goNights : sm_M := (yX7_goNights, cX7_goNights, 3, none)
abbrev MX7_begin : sm_M := (yX7_begin, cX7_begin, 2, none)
abbrev MX7_goNight : sm_M := (yX7_goNight, cX7_goNight, 5, none)
abbrev MX7_passOn : sm_M := (yX7_passOn, cX7_passOn, 6, none)
abbrev MX7_deep : sm_M := (yX7_deep, cX7_deep, 3, (some .int))
abbrev MX7_beds : sm_M := (yX7_beds, cX7_beds, 3, (some .int))
abbrev MX7_inBeds : sm_M := (yX7_inBeds, cX7_inBeds, 4, (some .int))
abbrev MX7_list : sm_M := (yX7_list, cX7_list, 8, (some .int))
abbrev MX7_meet : sm_M := (yX7_meet, cX7_meet, 2, (some .int))
abbrev MX7_noFamily : sm_M := (yX7_noFamily, cX7_noFamily, 4, (some .boolean))
abbrev MX7_meetsIn : sm_M := (yX7_meetsIn, cX7_meetsIn, 5, (some .int))
abbrev MX7_isTogether : sm_M := (yX7_isTogether, cX7_isTogether, 5, (some .boolean))
abbrev MX7_least : sm_M := (yX7_least, cX7_least, 7, (some .int))
abbrev MX7_isNobodyOut : sm_M := (yX7_isNobodyOut, cX7_isNobodyOut, 4, (some .boolean))
abbrev MX7_isBy : sm_M := (yX7_isBy, cX7_isBy, 8, (some .boolean))
abbrev MX7_turn : sm_M := (yX7_turn, cX7_turn, 5, (some .int))
abbrev MX7_corks : sm_M := (yX7_corks, cX7_corks, 5, (some .int))
abbrev MX7_bits : sm_M := (yX7_bits, cX7_bits, 3, (some .int))
abbrev MX7_reading : sm_M := (yX7_reading, cX7_reading, 4, (some .int))
abbrev MX7_back : sm_M := (yX7_back, cX7_back, 2, (some .int))
abbrev MX7_rules : sm_M := (yX7_rules, cX7_rules, 4, (some .int))
abbrev MX7_areSo : sm_M := (yX7_areSo, cX7_areSo, 4, (some .boolean))
abbrev MX7_kinds : sm_M := (yX7_kinds, cX7_kinds, 5, (some .int))
abbrev MX7_depths : sm_M := (yX7_depths, cX7_depths, 5, (some .int))
abbrev MX7_falls : sm_M := (yX7_falls, cX7_falls, 5, (some .int))
abbrev MX7_odds : sm_M := (yX7_odds, cX7_odds, 8, (some .long))
abbrev MX7_lost : sm_M := (yX7_lost, cX7_lost, 0, (some .long))
abbrev MX7_blow : sm_M := (yX7_blow, cX7_blow, 4, none)
abbrev MX7_share : sm_M := (yX7_share, cX7_share, 11, (some .long))
abbrev MX7_sheet : sm_M := (yX7_sheet, cX7_sheet, 5, (some .int))
abbrev MX7_lose : sm_M := (yX7_lose, cX7_lose, 3, (some .int))
abbrev MX7_put : sm_M := (yX7_put, cX7_put, 4, (some .int))
abbrev MX7_noCell : sm_M := (yX7_noCell, cX7_noCell, 3, (some .int))
abbrev MX7_cell : sm_M := (yX7_cell, cX7_cell, 4, (some .long))
abbrev MX7_failedLong : sm_M := (yX7_failedLong, cX7_failedLong, 2, (some .long))
abbrev MX7_copy : sm_M := (yX7_copy, cX7_copy, 7, (some .int))
abbrev MX7_tell : sm_M := (yX7_tell, cX7_tell, 4, (some .int))
abbrev MX7_traced : sm_M := (yX7_traced, cX7_traced, 2, none)
abbrev MX7_light : sm_M := (yX7_light, cX7_light, 2, (some .int))
abbrev MX7_as : sm_M := (yX7_as, cX7_as, 3, (some .int))
abbrev MX7_trace : sm_M := (yX7_trace, cX7_trace, 1, (some .int))
abbrev MX7_fault : sm_M := (yX7_fault, cX7_fault, 1, (some .int))
abbrev MX7_many : sm_M := (yX7_many, cX7_many, 2, (some .int))
set_option maxRecDepth 100000 in
theorem lbX6_init : sm_LB MX6_init 0 := ⟨by decide, List.mem_of_getElem? (i := 65) rfl, List.mem_of_getElem? (i := 50) rfl, by decide +kernel, by decide⟩
set_option maxRecDepth 100000 in
theorem lbX2_init : sm_LB MX2_init 0 := ⟨by decide, List.mem_of_getElem? (i := 75) rfl, List.mem_of_getElem? (i := 51) rfl, by decide +kernel, by decide⟩
set_option maxRecDepth 100000 in
theorem lbX0_init : sm_LB MX0_init 1 := ⟨by decide, List.mem_of_getElem? (i := 150) rfl, List.mem_of_getElem? (i := 52) rfl, by decide +kernel, by decide⟩
set_option maxRecDepth 100000 in
theorem lbX1_init : sm_LB MX1_init 0 := ⟨by decide, List.mem_of_getElem? (i := 173) rfl, List.mem_of_getElem? (i := 53) rfl, by decide +kernel, by decide⟩
set_option maxRecDepth 100000 in
theorem lbX5_init : sm_LB MX5_init 2 := ⟨by decide, List.mem_of_getElem? (i := 193) rfl, List.mem_of_getElem? (i := 54) rfl, by decide +kernel, by decide⟩
set_option maxRecDepth 100000 in
theorem lbX3_init : sm_LB MX3_init 0 := ⟨by decide, List.mem_of_getElem? (i := 215) rfl, List.mem_of_getElem? (i := 55) rfl, by decide +kernel, by decide⟩
set_option maxRecDepth 100000 in
theorem lbX6_ridge : sm_LB MX6_ridge 4 := ⟨by decide, List.mem_of_getElem? (i := 258) rfl, List.mem_of_getElem? (i := 50) rfl, by decide +kernel, by decide⟩
set_option maxRecDepth 100000 in
theorem lbX6_isSheet : sm_LB MX6_isSheet 1 := ⟨by decide, List.mem_of_getElem? (i := 261) rfl, List.mem_of_getElem? (i := 50) rfl, by decide +kernel, by decide⟩
set_option maxRecDepth 100000 in
theorem lbX6_isLane : sm_LB MX6_isLane 1 := ⟨by decide, List.mem_of_getElem? (i := 264) rfl, List.mem_of_getElem? (i := 50) rfl, by decide +kernel, by decide⟩
set_option maxRecDepth 100000 in
theorem lbX3_faultOfRow : sm_LB MX3_faultOfRow 3 := ⟨by decide, List.mem_of_getElem? (i := 268) rfl, List.mem_of_getElem? (i := 55) rfl, by decide +kernel, by decide⟩
set_option maxRecDepth 100000 in
theorem lbX3_faultOfLane : sm_LB MX3_faultOfLane 1 := ⟨by decide, List.mem_of_getElem? (i := 272) rfl, List.mem_of_getElem? (i := 55) rfl, by decide +kernel, by decide⟩
set_option maxRecDepth 100000 in
theorem lbX3_isThere : sm_LB MX3_isThere 0 := ⟨by decide, List.mem_of_getElem? (i := 276) rfl, List.mem_of_getElem? (i := 55) rfl, by decide +kernel, by decide⟩
set_option maxRecDepth 100000 in
theorem lbX3_hasCells : sm_LB MX3_hasCells 2 := ⟨by decide, List.mem_of_getElem? (i := 280) rfl, List.mem_of_getElem? (i := 55) rfl, by decide +kernel, by decide⟩
set_option maxRecDepth 100000 in
theorem lbX6_faulted : sm_LB MX6_faulted 1 := ⟨by decide, List.mem_of_getElem? (i := 284) rfl, List.mem_of_getElem? (i := 50) rfl, by decide +kernel, by decide⟩
set_option maxRecDepth 100000 in
theorem lbX4_init : sm_LB MX4_init 3 := ⟨by decide, List.mem_of_getElem? (i := 289) rfl, List.mem_of_getElem? (i := 57) rfl, by decide +kernel, by decide⟩
set_option maxRecDepth 100000 in
theorem lbX4_readInto : sm_LB MX4_readInto 1 := ⟨by decide, List.mem_of_getElem? (i := 307) rfl, List.mem_of_getElem? (i := 57) rfl, by decide +kernel, by decide⟩
set_option maxRecDepth 100000 in
theorem lbX2_clear : sm_LB MX2_clear 0 := ⟨by decide, List.mem_of_getElem? (i := 311) rfl, List.mem_of_getElem? (i := 51) rfl, by decide +kernel, by decide⟩
set_option maxRecDepth 100000 in
theorem lbX4_takes : sm_LB MX4_takes 1 := ⟨by decide, List.mem_of_getElem? (i := 315) rfl, List.mem_of_getElem? (i := 57) rfl, by decide +kernel, by decide⟩
set_option maxRecDepth 100000 in
theorem lbX4_readInns : sm_LB MX4_readInns 1 := ⟨by decide, List.mem_of_getElem? (i := 319) rfl, List.mem_of_getElem? (i := 57) rfl, by decide +kernel, by decide⟩
set_option maxRecDepth 100000 in
theorem lbX4_takeKind : sm_LB MX4_takeKind 0 := ⟨by decide, List.mem_of_getElem? (i := 323) rfl, List.mem_of_getElem? (i := 57) rfl, by decide +kernel, by decide⟩
set_option maxRecDepth 100000 in
theorem lbX4_takeDigit : sm_LB MX4_takeDigit 1 := ⟨by decide, List.mem_of_getElem? (i := 327) rfl, List.mem_of_getElem? (i := 57) rfl, by decide +kernel, by decide⟩
set_option maxRecDepth 100000 in
theorem lbX4_readNights : sm_LB MX4_readNights 1 := ⟨by decide, List.mem_of_getElem? (i := 331) rfl, List.mem_of_getElem? (i := 57) rfl, by decide +kernel, by decide⟩
set_option maxRecDepth 100000 in
theorem lbX4_readGuests : sm_LB MX4_readGuests 1 := ⟨by decide, List.mem_of_getElem? (i := 335) rfl, List.mem_of_getElem? (i := 57) rfl, by decide +kernel, by decide⟩
set_option maxRecDepth 100000 in
theorem lbX4_place : sm_LB MX4_place 0 := ⟨by decide, List.mem_of_getElem? (i := 339) rfl, List.mem_of_getElem? (i := 57) rfl, by decide +kernel, by decide⟩
set_option maxRecDepth 100000 in
theorem lbX2_become : sm_LB MX2_become 1 := ⟨by decide, List.mem_of_getElem? (i := 343) rfl, List.mem_of_getElem? (i := 51) rfl, by decide +kernel, by decide⟩
set_option maxRecDepth 100000 in
theorem lbX1_clear : sm_LB MX1_clear 0 := ⟨by decide, List.mem_of_getElem? (i := 350) rfl, List.mem_of_getElem? (i := 53) rfl, by decide +kernel, by decide⟩
set_option maxRecDepth 100000 in
theorem lbX6_ofInn : sm_LB MX6_ofInn 2 := ⟨by decide, List.mem_of_getElem? (i := 354) rfl, List.mem_of_getElem? (i := 50) rfl, by decide +kernel, by decide⟩
set_option maxRecDepth 100000 in
theorem lbX2_hasInn : sm_LB MX2_hasInn 1 := ⟨by decide, List.mem_of_getElem? (i := 358) rfl, List.mem_of_getElem? (i := 51) rfl, by decide +kernel, by decide⟩
set_option maxRecDepth 100000 in
theorem lbX2_keepsBy : sm_LB MX2_keepsBy 2 := ⟨by decide, List.mem_of_getElem? (i := 362) rfl, List.mem_of_getElem? (i := 51) rfl, by decide +kernel, by decide⟩
set_option maxRecDepth 100000 in
theorem lbX6_ofGuest : sm_LB MX6_ofGuest 2 := ⟨by decide, List.mem_of_getElem? (i := 366) rfl, List.mem_of_getElem? (i := 50) rfl, by decide +kernel, by decide⟩
set_option maxRecDepth 100000 in
theorem lbX2_hasGuest : sm_LB MX2_hasGuest 1 := ⟨by decide, List.mem_of_getElem? (i := 370) rfl, List.mem_of_getElem? (i := 51) rfl, by decide +kernel, by decide⟩
set_option maxRecDepth 100000 in
theorem lbX6_ofNight : sm_LB MX6_ofNight 2 := ⟨by decide, List.mem_of_getElem? (i := 374) rfl, List.mem_of_getElem? (i := 50) rfl, by decide +kernel, by decide⟩
set_option maxRecDepth 100000 in
theorem lbX2_stands : sm_LB MX2_stands 0 := ⟨by decide, List.mem_of_getElem? (i := 378) rfl, List.mem_of_getElem? (i := 51) rfl, by decide +kernel, by decide⟩
set_option maxRecDepth 100000 in
theorem lbX2_hasNight : sm_LB MX2_hasNight 1 := ⟨by decide, List.mem_of_getElem? (i := 382) rfl, List.mem_of_getElem? (i := 51) rfl, by decide +kernel, by decide⟩
set_option maxRecDepth 100000 in
theorem lbX6_rule : sm_LB MX6_rule 1 := ⟨by decide, List.mem_of_getElem? (i := 386) rfl, List.mem_of_getElem? (i := 50) rfl, by decide +kernel, by decide⟩
set_option maxRecDepth 100000 in
theorem lbX6_fall : sm_LB MX6_fall 2 := ⟨by decide, List.mem_of_getElem? (i := 390) rfl, List.mem_of_getElem? (i := 50) rfl, by decide +kernel, by decide⟩
set_option maxRecDepth 100000 in
theorem lbX6_gust : sm_LB MX6_gust 2 := ⟨by decide, List.mem_of_getElem? (i := 394) rfl, List.mem_of_getElem? (i := 50) rfl, by decide +kernel, by decide⟩
set_option maxRecDepth 100000 in
theorem lbX6_lodge : sm_LB MX6_lodge 2 := ⟨by decide, List.mem_of_getElem? (i := 398) rfl, List.mem_of_getElem? (i := 50) rfl, by decide +kernel, by decide⟩
set_option maxRecDepth 100000 in
theorem lbX6_sweep : sm_LB MX6_sweep 3 := ⟨by decide, List.mem_of_getElem? (i := 402) rfl, List.mem_of_getElem? (i := 50) rfl, by decide +kernel, by decide⟩
set_option maxRecDepth 100000 in
theorem lbX2_sweepOver : sm_LB MX2_sweepOver 3 := ⟨by decide, List.mem_of_getElem? (i := 406) rfl, List.mem_of_getElem? (i := 51) rfl, by decide +kernel, by decide⟩
set_option maxRecDepth 100000 in
theorem lbX6_where : sm_LB MX6_where 2 := ⟨by decide, List.mem_of_getElem? (i := 413) rfl, List.mem_of_getElem? (i := 50) rfl, by decide +kernel, by decide⟩
set_option maxRecDepth 100000 in
theorem lbX2_countsNights : sm_LB MX2_countsNights 1 := ⟨by decide, List.mem_of_getElem? (i := 417) rfl, List.mem_of_getElem? (i := 51) rfl, by decide +kernel, by decide⟩
set_option maxRecDepth 100000 in
theorem lbX0_run : sm_LB MX0_run 1 := ⟨by decide, List.mem_of_getElem? (i := 421) rfl, List.mem_of_getElem? (i := 52) rfl, by decide +kernel, by decide⟩
set_option maxRecDepth 100000 in
theorem lbX0_begin : sm_LB MX0_begin 0 := ⟨by decide, List.mem_of_getElem? (i := 425) rfl, List.mem_of_getElem? (i := 52) rfl, by decide +kernel, by decide⟩
set_option maxRecDepth 100000 in
theorem lbX0_pass : sm_LB MX0_pass 2 := ⟨by decide, List.mem_of_getElem? (i := 429) rfl, List.mem_of_getElem? (i := 52) rfl, by decide +kernel, by decide⟩
set_option maxRecDepth 100000 in
theorem lbX0_snow : sm_LB MX0_snow 1 := ⟨by decide, List.mem_of_getElem? (i := 433) rfl, List.mem_of_getElem? (i := 52) rfl, by decide +kernel, by decide⟩
set_option maxRecDepth 100000 in
theorem lbX2_roomBy : sm_LB MX2_roomBy 2 := ⟨by decide, List.mem_of_getElem? (i := 441) rfl, List.mem_of_getElem? (i := 51) rfl, by decide +kernel, by decide⟩
set_option maxRecDepth 100000 in
theorem lbX0_keptOf : sm_LB MX0_keptOf 2 := ⟨by decide, List.mem_of_getElem? (i := 446) rfl, List.mem_of_getElem? (i := 52) rfl, by decide +kernel, by decide⟩
set_option maxRecDepth 100000 in
theorem lbJ6_bitCount_0f7a4 : sm_LB MJ6_bitCount_0f7a4 1 := ⟨by decide, List.mem_of_getElem? (i := 449) rfl, List.mem_of_getElem? (i := 60) rfl, by decide +kernel, by decide⟩
set_option maxRecDepth 100000 in
theorem lbX0_withoutLeast : sm_LB MX0_withoutLeast 2 := ⟨by decide, List.mem_of_getElem? (i := 455) rfl, List.mem_of_getElem? (i := 52) rfl, by decide +kernel, by decide⟩
set_option maxRecDepth 100000 in
theorem lbX0_placeOf : sm_LB MX0_placeOf 2 := ⟨by decide, List.mem_of_getElem? (i := 459) rfl, List.mem_of_getElem? (i := 52) rfl, by decide +kernel, by decide⟩
set_option maxRecDepth 100000 in
theorem lbX0_isAt : sm_LB MX0_isAt 3 := ⟨by decide, List.mem_of_getElem? (i := 463) rfl, List.mem_of_getElem? (i := 52) rfl, by decide +kernel, by decide⟩
set_option maxRecDepth 100000 in
theorem lbX6_deep : sm_LB MX6_deep 2 := ⟨by decide, List.mem_of_getElem? (i := 467) rfl, List.mem_of_getElem? (i := 50) rfl, by decide +kernel, by decide⟩
set_option maxRecDepth 100000 in
theorem lbX6_beds : sm_LB MX6_beds 2 := ⟨by decide, List.mem_of_getElem? (i := 471) rfl, List.mem_of_getElem? (i := 50) rfl, by decide +kernel, by decide⟩
set_option maxRecDepth 100000 in
theorem lbX2_hasInnOrRoad : sm_LB MX2_hasInnOrRoad 1 := ⟨by decide, List.mem_of_getElem? (i := 475) rfl, List.mem_of_getElem? (i := 51) rfl, by decide +kernel, by decide⟩
set_option maxRecDepth 100000 in
theorem lbX6_list : sm_LB MX6_list 5 := ⟨by decide, List.mem_of_getElem? (i := 480) rfl, List.mem_of_getElem? (i := 50) rfl, by decide +kernel, by decide⟩
set_option maxRecDepth 100000 in
theorem lbX6_firstElsewhere : sm_LB MX6_firstElsewhere 4 := ⟨by decide, List.mem_of_getElem? (i := 484) rfl, List.mem_of_getElem? (i := 50) rfl, by decide +kernel, by decide⟩
set_option maxRecDepth 100000 in
theorem lbX6_meet : sm_LB MX6_meet 1 := ⟨by decide, List.mem_of_getElem? (i := 488) rfl, List.mem_of_getElem? (i := 50) rfl, by decide +kernel, by decide⟩
set_option maxRecDepth 100000 in
theorem lbX2_membersOf : sm_LB MX2_membersOf 1 := ⟨by decide, List.mem_of_getElem? (i := 492) rfl, List.mem_of_getElem? (i := 51) rfl, by decide +kernel, by decide⟩
set_option maxRecDepth 100000 in
theorem lbX0_firstMeeting : sm_LB MX0_firstMeeting 2 := ⟨by decide, List.mem_of_getElem? (i := 496) rfl, List.mem_of_getElem? (i := 52) rfl, by decide +kernel, by decide⟩
set_option maxRecDepth 100000 in
theorem lbX0_isMeeting : sm_LB MX0_isMeeting 2 := ⟨by decide, List.mem_of_getElem? (i := 500) rfl, List.mem_of_getElem? (i := 52) rfl, by decide +kernel, by decide⟩
set_option maxRecDepth 100000 in
theorem lbX6_least : sm_LB MX6_least 2 := ⟨by decide, List.mem_of_getElem? (i := 504) rfl, List.mem_of_getElem? (i := 50) rfl, by decide +kernel, by decide⟩
set_option maxRecDepth 100000 in
theorem lbX5_leastSweep : sm_LB MX5_leastSweep 2 := ⟨by decide, List.mem_of_getElem? (i := 508) rfl, List.mem_of_getElem? (i := 54) rfl, by decide +kernel, by decide⟩
set_option maxRecDepth 100000 in
theorem lbX0_leaveRoadEmpty : sm_LB MX0_leaveRoadEmpty 1 := ⟨by decide, List.mem_of_getElem? (i := 513) rfl, List.mem_of_getElem? (i := 52) rfl, by decide +kernel, by decide⟩
set_option maxRecDepth 100000 in
theorem lbX0_onRoad : sm_LB MX0_onRoad 1 := ⟨by decide, List.mem_of_getElem? (i := 517) rfl, List.mem_of_getElem? (i := 52) rfl, by decide +kernel, by decide⟩
set_option maxRecDepth 100000 in
theorem lbX5_sweepEmptiesRoad : sm_LB MX5_sweepEmptiesRoad 4 := ⟨by decide, List.mem_of_getElem? (i := 521) rfl, List.mem_of_getElem? (i := 54) rfl, by decide +kernel, by decide⟩
set_option maxRecDepth 100000 in
theorem lbX6_turn : sm_LB MX6_turn 2 := ⟨by decide, List.mem_of_getElem? (i := 527) rfl, List.mem_of_getElem? (i := 50) rfl, by decide +kernel, by decide⟩
set_option maxRecDepth 100000 in
theorem lbX5_firstTurn : sm_LB MX5_firstTurn 2 := ⟨by decide, List.mem_of_getElem? (i := 531) rfl, List.mem_of_getElem? (i := 54) rfl, by decide +kernel, by decide⟩
set_option maxRecDepth 100000 in
theorem lbX6_corks : sm_LB MX6_corks 1 := ⟨by decide, List.mem_of_getElem? (i := 536) rfl, List.mem_of_getElem? (i := 50) rfl, by decide +kernel, by decide⟩
set_option maxRecDepth 100000 in
theorem lbX5_innsThatCork : sm_LB MX5_innsThatCork 1 := ⟨by decide, List.mem_of_getElem? (i := 540) rfl, List.mem_of_getElem? (i := 54) rfl, by decide +kernel, by decide⟩
set_option maxRecDepth 100000 in
theorem lbX5_manyOnRoad : sm_LB MX5_manyOnRoad 1 := ⟨by decide, List.mem_of_getElem? (i := 544) rfl, List.mem_of_getElem? (i := 54) rfl, by decide +kernel, by decide⟩
set_option maxRecDepth 100000 in
theorem lbX6_reading : sm_LB MX6_reading 3 := ⟨by decide, List.mem_of_getElem? (i := 551) rfl, List.mem_of_getElem? (i := 50) rfl, by decide +kernel, by decide⟩
set_option maxRecDepth 100000 in
theorem lbX1_add : sm_LB MX1_add 3 := ⟨by decide, List.mem_of_getElem? (i := 555) rfl, List.mem_of_getElem? (i := 53) rfl, by decide +kernel, by decide⟩
set_option maxRecDepth 100000 in
theorem lbX6_back : sm_LB MX6_back 1 := ⟨by decide, List.mem_of_getElem? (i := 559) rfl, List.mem_of_getElem? (i := 50) rfl, by decide +kernel, by decide⟩
set_option maxRecDepth 100000 in
theorem lbX6_rules : sm_LB MX6_rules 0 := ⟨by decide, List.mem_of_getElem? (i := 563) rfl, List.mem_of_getElem? (i := 50) rfl, by decide +kernel, by decide⟩
set_option maxRecDepth 100000 in
theorem lbX5_rulesThatFit : sm_LB MX5_rulesThatFit 0 := ⟨by decide, List.mem_of_getElem? (i := 567) rfl, List.mem_of_getElem? (i := 54) rfl, by decide +kernel, by decide⟩
set_option maxRecDepth 100000 in
theorem lbX5_bitIfFit : sm_LB MX5_bitIfFit 1 := ⟨by decide, List.mem_of_getElem? (i := 571) rfl, List.mem_of_getElem? (i := 54) rfl, by decide +kernel, by decide⟩
set_option maxRecDepth 100000 in
theorem lbX1_areSo : sm_LB MX1_areSo 1 := ⟨by decide, List.mem_of_getElem? (i := 575) rfl, List.mem_of_getElem? (i := 53) rfl, by decide +kernel, by decide⟩
set_option maxRecDepth 100000 in
theorem lbX6_kinds : sm_LB MX6_kinds 1 := ⟨by decide, List.mem_of_getElem? (i := 580) rfl, List.mem_of_getElem? (i := 50) rfl, by decide +kernel, by decide⟩
set_option maxRecDepth 100000 in
theorem lbX5_kindsThatFit : sm_LB MX5_kindsThatFit 1 := ⟨by decide, List.mem_of_getElem? (i := 584) rfl, List.mem_of_getElem? (i := 54) rfl, by decide +kernel, by decide⟩
set_option maxRecDepth 100000 in
theorem lbX6_depths : sm_LB MX6_depths 1 := ⟨by decide, List.mem_of_getElem? (i := 588) rfl, List.mem_of_getElem? (i := 50) rfl, by decide +kernel, by decide⟩
set_option maxRecDepth 100000 in
theorem lbX5_depthsThatFit : sm_LB MX5_depthsThatFit 1 := ⟨by decide, List.mem_of_getElem? (i := 592) rfl, List.mem_of_getElem? (i := 54) rfl, by decide +kernel, by decide⟩
set_option maxRecDepth 100000 in
theorem lbX6_falls : sm_LB MX6_falls 1 := ⟨by decide, List.mem_of_getElem? (i := 596) rfl, List.mem_of_getElem? (i := 50) rfl, by decide +kernel, by decide⟩
set_option maxRecDepth 100000 in
theorem lbX5_fallsThatFit : sm_LB MX5_fallsThatFit 1 := ⟨by decide, List.mem_of_getElem? (i := 600) rfl, List.mem_of_getElem? (i := 54) rfl, by decide +kernel, by decide⟩
set_option maxRecDepth 100000 in
theorem lbX6_odds : sm_LB MX6_odds 3 := ⟨by decide, List.mem_of_getElem? (i := 604) rfl, List.mem_of_getElem? (i := 50) rfl, by decide +kernel, by decide⟩
set_option maxRecDepth 100000 in
theorem lbX5_windsThatMeet : sm_LB MX5_windsThatMeet 2 := ⟨by decide, List.mem_of_getElem? (i := 609) rfl, List.mem_of_getElem? (i := 54) rfl, by decide +kernel, by decide⟩
set_option maxRecDepth 100000 in
theorem lbX5_meetingWinds : sm_LB MX5_meetingWinds 4 := ⟨by decide, List.mem_of_getElem? (i := 613) rfl, List.mem_of_getElem? (i := 54) rfl, by decide +kernel, by decide⟩
set_option maxRecDepth 100000 in
theorem lbX6_sheet : sm_LB MX6_sheet 3 := ⟨by decide, List.mem_of_getElem? (i := 619) rfl, List.mem_of_getElem? (i := 50) rfl, by decide +kernel, by decide⟩
set_option maxRecDepth 100000 in
theorem lbX3_renew : sm_LB MX3_renew 2 := ⟨by decide, List.mem_of_getElem? (i := 623) rfl, List.mem_of_getElem? (i := 55) rfl, by decide +kernel, by decide⟩
set_option maxRecDepth 100000 in
theorem lbX6_lose : sm_LB MX6_lose 1 := ⟨by decide, List.mem_of_getElem? (i := 627) rfl, List.mem_of_getElem? (i := 50) rfl, by decide +kernel, by decide⟩
set_option maxRecDepth 100000 in
theorem lbX3_clear : sm_LB MX3_clear 0 := ⟨by decide, List.mem_of_getElem? (i := 632) rfl, List.mem_of_getElem? (i := 55) rfl, by decide +kernel, by decide⟩
set_option maxRecDepth 100000 in
theorem lbX6_put : sm_LB MX6_put 3 := ⟨by decide, List.mem_of_getElem? (i := 636) rfl, List.mem_of_getElem? (i := 50) rfl, by decide +kernel, by decide⟩
set_option maxRecDepth 100000 in
theorem lbX3_hasCell : sm_LB MX3_hasCell 1 := ⟨by decide, List.mem_of_getElem? (i := 640) rfl, List.mem_of_getElem? (i := 55) rfl, by decide +kernel, by decide⟩
set_option maxRecDepth 100000 in
theorem lbX3_write : sm_LB MX3_write 2 := ⟨by decide, List.mem_of_getElem? (i := 644) rfl, List.mem_of_getElem? (i := 55) rfl, by decide +kernel, by decide⟩
set_option maxRecDepth 100000 in
theorem lbX6_cell : sm_LB MX6_cell 3 := ⟨by decide, List.mem_of_getElem? (i := 648) rfl, List.mem_of_getElem? (i := 50) rfl, by decide +kernel, by decide⟩
set_option maxRecDepth 100000 in
theorem lbX3_faultOfCell : sm_LB MX3_faultOfCell 2 := ⟨by decide, List.mem_of_getElem? (i := 652) rfl, List.mem_of_getElem? (i := 55) rfl, by decide +kernel, by decide⟩
set_option maxRecDepth 100000 in
theorem lbX6_copy : sm_LB MX6_copy 5 := ⟨by decide, List.mem_of_getElem? (i := 657) rfl, List.mem_of_getElem? (i := 50) rfl, by decide +kernel, by decide⟩
set_option maxRecDepth 100000 in
theorem lbX6_tell : sm_LB MX6_tell 1 := ⟨by decide, List.mem_of_getElem? (i := 663) rfl, List.mem_of_getElem? (i := 50) rfl, by decide +kernel, by decide⟩
set_option maxRecDepth 100000 in
theorem lbX6_castleTelling : sm_LB MX6_castleTelling 1 := ⟨by decide, List.mem_of_getElem? (i := 667) rfl, List.mem_of_getElem? (i := 50) rfl, by decide +kernel, by decide⟩
set_option maxRecDepth 100000 in
theorem lbX6_beginBody : sm_LB MX6_beginBody 1 := ⟨by decide, List.mem_of_getElem? (i := 671) rfl, List.mem_of_getElem? (i := 50) rfl, by decide +kernel, by decide⟩
set_option maxRecDepth 100000 in
theorem lbX6_lodgeTelling : sm_LB MX6_lodgeTelling 1 := ⟨by decide, List.mem_of_getElem? (i := 675) rfl, List.mem_of_getElem? (i := 50) rfl, by decide +kernel, by decide⟩
set_option maxRecDepth 100000 in
theorem lbX6_innTelling : sm_LB MX6_innTelling 1 := ⟨by decide, List.mem_of_getElem? (i := 679) rfl, List.mem_of_getElem? (i := 50) rfl, by decide +kernel, by decide⟩
set_option maxRecDepth 100000 in
theorem lbX6_light : sm_LB MX6_light 1 := ⟨by decide, List.mem_of_getElem? (i := 683) rfl, List.mem_of_getElem? (i := 50) rfl, by decide +kernel, by decide⟩
set_option maxRecDepth 100000 in
theorem lbX6_castleLight : sm_LB MX6_castleLight 0 := ⟨by decide, List.mem_of_getElem? (i := 687) rfl, List.mem_of_getElem? (i := 50) rfl, by decide +kernel, by decide⟩
set_option maxRecDepth 100000 in
theorem lbX6_lentLight : sm_LB MX6_lentLight 1 := ⟨by decide, List.mem_of_getElem? (i := 691) rfl, List.mem_of_getElem? (i := 50) rfl, by decide +kernel, by decide⟩
set_option maxRecDepth 100000 in
theorem lbX6_as : sm_LB MX6_as 2 := ⟨by decide, List.mem_of_getElem? (i := 695) rfl, List.mem_of_getElem? (i := 50) rfl, by decide +kernel, by decide⟩
set_option maxRecDepth 100000 in
theorem lbX6_trace : sm_LB MX6_trace 0 := ⟨by decide, List.mem_of_getElem? (i := 699) rfl, List.mem_of_getElem? (i := 50) rfl, by decide +kernel, by decide⟩
set_option maxRecDepth 100000 in
theorem lbX6_fault : sm_LB MX6_fault 0 := ⟨by decide, List.mem_of_getElem? (i := 703) rfl, List.mem_of_getElem? (i := 50) rfl, by decide +kernel, by decide⟩
set_option maxRecDepth 100000 in
theorem lbX6_many : sm_LB MX6_many 1 := ⟨by decide, List.mem_of_getElem? (i := 707) rfl, List.mem_of_getElem? (i := 50) rfl, by decide +kernel, by decide⟩
set_option maxRecDepth 100000 in
theorem lbX7_init : sm_LB MX7_init 0 := ⟨by decide, List.mem_of_getElem? (i := 712) rfl, List.mem_of_getElem? (i := 56) rfl, by decide +kernel, by decide⟩
set_option maxRecDepth 100000 in
theorem lbX7_ridge : sm_LB MX7_ridge 4 := ⟨by decide, List.mem_of_getElem? (i := 820) rfl, List.mem_of_getElem? (i := 56) rfl, by decide +kernel, by decide⟩
set_option maxRecDepth 100000 in
theorem lbX7_noSheet : sm_LB MX7_noSheet 1 := ⟨by decide, List.mem_of_getElem? (i := 823) rfl, List.mem_of_getElem? (i := 56) rfl, by decide +kernel, by decide⟩
set_option maxRecDepth 100000 in
theorem lbX7_in : sm_LB MX7_in 3 := ⟨by decide, List.mem_of_getElem? (i := 827) rfl, List.mem_of_getElem? (i := 56) rfl, by decide +kernel, by decide⟩
set_option maxRecDepth 100000 in
theorem lbX7_refused : sm_LB MX7_refused 1 := ⟨by decide, List.mem_of_getElem? (i := 831) rfl, List.mem_of_getElem? (i := 56) rfl, by decide +kernel, by decide⟩
set_option maxRecDepth 100000 in
theorem lbX7_cellsBarred : sm_LB MX7_cellsBarred 4 := ⟨by decide, List.mem_of_getElem? (i := 836) rfl, List.mem_of_getElem? (i := 56) rfl, by decide +kernel, by decide⟩
set_option maxRecDepth 100000 in
theorem lbX7_failed : sm_LB MX7_failed 1 := ⟨by decide, List.mem_of_getElem? (i := 840) rfl, List.mem_of_getElem? (i := 56) rfl, by decide +kernel, by decide⟩
set_option maxRecDepth 100000 in
theorem lbX7_isBeyond : sm_LB MX7_isBeyond 3 := ⟨by decide, List.mem_of_getElem? (i := 843) rfl, List.mem_of_getElem? (i := 56) rfl, by decide +kernel, by decide⟩
set_option maxRecDepth 100000 in
theorem lbX7_readsRidge : sm_LB MX7_readsRidge 2 := ⟨by decide, List.mem_of_getElem? (i := 847) rfl, List.mem_of_getElem? (i := 56) rfl, by decide +kernel, by decide⟩
set_option maxRecDepth 100000 in
theorem lbX7_codeAt : sm_LB MX7_codeAt 2 := ⟨by decide, List.mem_of_getElem? (i := 851) rfl, List.mem_of_getElem? (i := 56) rfl, by decide +kernel, by decide⟩
set_option maxRecDepth 100000 in
theorem lbX7_readsInn : sm_LB MX7_readsInn 2 := ⟨by decide, List.mem_of_getElem? (i := 855) rfl, List.mem_of_getElem? (i := 56) rfl, by decide +kernel, by decide⟩
set_option maxRecDepth 100000 in
theorem lbX7_figure : sm_LB MX7_figure 4 := ⟨by decide, List.mem_of_getElem? (i := 859) rfl, List.mem_of_getElem? (i := 56) rfl, by decide +kernel, by decide⟩
set_option maxRecDepth 100000 in
theorem lbX7_readsNight : sm_LB MX7_readsNight 2 := ⟨by decide, List.mem_of_getElem? (i := 863) rfl, List.mem_of_getElem? (i := 56) rfl, by decide +kernel, by decide⟩
set_option maxRecDepth 100000 in
theorem lbX7_readsGuest : sm_LB MX7_readsGuest 2 := ⟨by decide, List.mem_of_getElem? (i := 867) rfl, List.mem_of_getElem? (i := 56) rfl, by decide +kernel, by decide⟩
set_option maxRecDepth 100000 in
theorem lbX7_ofInn : sm_LB MX7_ofInn 2 := ⟨by decide, List.mem_of_getElem? (i := 871) rfl, List.mem_of_getElem? (i := 56) rfl, by decide +kernel, by decide⟩
set_option maxRecDepth 100000 in
theorem lbX7_noInn : sm_LB MX7_noInn 1 := ⟨by decide, List.mem_of_getElem? (i := 875) rfl, List.mem_of_getElem? (i := 56) rfl, by decide +kernel, by decide⟩
set_option maxRecDepth 100000 in
theorem lbX7_keepsBy : sm_LB MX7_keepsBy 2 := ⟨by decide, List.mem_of_getElem? (i := 879) rfl, List.mem_of_getElem? (i := 56) rfl, by decide +kernel, by decide⟩
set_option maxRecDepth 100000 in
theorem lbX7_ofGuest : sm_LB MX7_ofGuest 2 := ⟨by decide, List.mem_of_getElem? (i := 883) rfl, List.mem_of_getElem? (i := 56) rfl, by decide +kernel, by decide⟩
set_option maxRecDepth 100000 in
theorem lbX7_noGuest : sm_LB MX7_noGuest 1 := ⟨by decide, List.mem_of_getElem? (i := 887) rfl, List.mem_of_getElem? (i := 56) rfl, by decide +kernel, by decide⟩
set_option maxRecDepth 100000 in
theorem lbX7_ofNight : sm_LB MX7_ofNight 2 := ⟨by decide, List.mem_of_getElem? (i := 891) rfl, List.mem_of_getElem? (i := 56) rfl, by decide +kernel, by decide⟩
set_option maxRecDepth 100000 in
theorem lbX7_noNight : sm_LB MX7_noNight 1 := ⟨by decide, List.mem_of_getElem? (i := 895) rfl, List.mem_of_getElem? (i := 56) rfl, by decide +kernel, by decide⟩
set_option maxRecDepth 100000 in
theorem lbX7_rule : sm_LB MX7_rule 1 := ⟨by decide, List.mem_of_getElem? (i := 899) rfl, List.mem_of_getElem? (i := 56) rfl, by decide +kernel, by decide⟩
set_option maxRecDepth 100000 in
theorem lbX7_fall : sm_LB MX7_fall 2 := ⟨by decide, List.mem_of_getElem? (i := 903) rfl, List.mem_of_getElem? (i := 56) rfl, by decide +kernel, by decide⟩
set_option maxRecDepth 100000 in
theorem lbX7_gust : sm_LB MX7_gust 2 := ⟨by decide, List.mem_of_getElem? (i := 908) rfl, List.mem_of_getElem? (i := 56) rfl, by decide +kernel, by decide⟩
set_option maxRecDepth 100000 in
theorem lbX7_lodge : sm_LB MX7_lodge 2 := ⟨by decide, List.mem_of_getElem? (i := 912) rfl, List.mem_of_getElem? (i := 56) rfl, by decide +kernel, by decide⟩
set_option maxRecDepth 100000 in
theorem lbX7_sweep : sm_LB MX7_sweep 3 := ⟨by decide, List.mem_of_getElem? (i := 916) rfl, List.mem_of_getElem? (i := 56) rfl, by decide +kernel, by decide⟩
set_option maxRecDepth 100000 in
theorem lbX7_swept : sm_LB MX7_swept 3 := ⟨by decide, List.mem_of_getElem? (i := 921) rfl, List.mem_of_getElem? (i := 56) rfl, by decide +kernel, by decide⟩
set_option maxRecDepth 100000 in
theorem lbX7_where : sm_LB MX7_where 2 := ⟨by decide, List.mem_of_getElem? (i := 925) rfl, List.mem_of_getElem? (i := 56) rfl, by decide +kernel, by decide⟩
set_option maxRecDepth 100000 in
theorem lbX7_goNights : sm_LB MX7_goNights 1 := ⟨by decide, List.mem_of_getElem? (i := 929) rfl, List.mem_of_getElem? (i := 56) rfl, by decide +kernel, by decide⟩
set_option maxRecDepth 100000 in
theorem lbX7_begin : sm_LB MX7_begin 0 := ⟨by decide, List.mem_of_getElem? (i := 933) rfl, List.mem_of_getElem? (i := 56) rfl, by decide +kernel, by decide⟩
set_option maxRecDepth 100000 in
theorem lbX7_goNight : sm_LB MX7_goNight 1 := ⟨by decide, List.mem_of_getElem? (i := 937) rfl, List.mem_of_getElem? (i := 56) rfl, by decide +kernel, by decide⟩
set_option maxRecDepth 100000 in
theorem lbX7_passOn : sm_LB MX7_passOn 2 := ⟨by decide, List.mem_of_getElem? (i := 941) rfl, List.mem_of_getElem? (i := 56) rfl, by decide +kernel, by decide⟩
set_option maxRecDepth 100000 in
theorem lbX7_deep : sm_LB MX7_deep 2 := ⟨by decide, List.mem_of_getElem? (i := 945) rfl, List.mem_of_getElem? (i := 56) rfl, by decide +kernel, by decide⟩
set_option maxRecDepth 100000 in
theorem lbX7_beds : sm_LB MX7_beds 2 := ⟨by decide, List.mem_of_getElem? (i := 949) rfl, List.mem_of_getElem? (i := 56) rfl, by decide +kernel, by decide⟩
set_option maxRecDepth 100000 in
theorem lbX7_inBeds : sm_LB MX7_inBeds 1 := ⟨by decide, List.mem_of_getElem? (i := 953) rfl, List.mem_of_getElem? (i := 56) rfl, by decide +kernel, by decide⟩
set_option maxRecDepth 100000 in
theorem lbX7_list : sm_LB MX7_list 5 := ⟨by decide, List.mem_of_getElem? (i := 957) rfl, List.mem_of_getElem? (i := 56) rfl, by decide +kernel, by decide⟩
set_option maxRecDepth 100000 in
theorem lbX7_meet : sm_LB MX7_meet 1 := ⟨by decide, List.mem_of_getElem? (i := 961) rfl, List.mem_of_getElem? (i := 56) rfl, by decide +kernel, by decide⟩
set_option maxRecDepth 100000 in
theorem lbX7_noFamily : sm_LB MX7_noFamily 1 := ⟨by decide, List.mem_of_getElem? (i := 965) rfl, List.mem_of_getElem? (i := 56) rfl, by decide +kernel, by decide⟩
set_option maxRecDepth 100000 in
theorem lbX7_meetsIn : sm_LB MX7_meetsIn 2 := ⟨by decide, List.mem_of_getElem? (i := 969) rfl, List.mem_of_getElem? (i := 56) rfl, by decide +kernel, by decide⟩
set_option maxRecDepth 100000 in
theorem lbX7_isTogether : sm_LB MX7_isTogether 1 := ⟨by decide, List.mem_of_getElem? (i := 973) rfl, List.mem_of_getElem? (i := 56) rfl, by decide +kernel, by decide⟩
set_option maxRecDepth 100000 in
theorem lbX7_least : sm_LB MX7_least 2 := ⟨by decide, List.mem_of_getElem? (i := 977) rfl, List.mem_of_getElem? (i := 56) rfl, by decide +kernel, by decide⟩
set_option maxRecDepth 100000 in
theorem lbX7_isNobodyOut : sm_LB MX7_isNobodyOut 1 := ⟨by decide, List.mem_of_getElem? (i := 981) rfl, List.mem_of_getElem? (i := 56) rfl, by decide +kernel, by decide⟩
set_option maxRecDepth 100000 in
theorem lbX7_isBy : sm_LB MX7_isBy 4 := ⟨by decide, List.mem_of_getElem? (i := 985) rfl, List.mem_of_getElem? (i := 56) rfl, by decide +kernel, by decide⟩
set_option maxRecDepth 100000 in
theorem lbX7_turn : sm_LB MX7_turn 2 := ⟨by decide, List.mem_of_getElem? (i := 989) rfl, List.mem_of_getElem? (i := 56) rfl, by decide +kernel, by decide⟩
set_option maxRecDepth 100000 in
theorem lbX7_corks : sm_LB MX7_corks 1 := ⟨by decide, List.mem_of_getElem? (i := 993) rfl, List.mem_of_getElem? (i := 56) rfl, by decide +kernel, by decide⟩
set_option maxRecDepth 100000 in
theorem lbX7_bits : sm_LB MX7_bits 1 := ⟨by decide, List.mem_of_getElem? (i := 996) rfl, List.mem_of_getElem? (i := 56) rfl, by decide +kernel, by decide⟩
set_option maxRecDepth 100000 in
theorem lbX7_reading : sm_LB MX7_reading 3 := ⟨by decide, List.mem_of_getElem? (i := 1000) rfl, List.mem_of_getElem? (i := 56) rfl, by decide +kernel, by decide⟩
set_option maxRecDepth 100000 in
theorem lbX7_back : sm_LB MX7_back 1 := ⟨by decide, List.mem_of_getElem? (i := 1004) rfl, List.mem_of_getElem? (i := 56) rfl, by decide +kernel, by decide⟩
set_option maxRecDepth 100000 in
theorem lbX7_rules : sm_LB MX7_rules 0 := ⟨by decide, List.mem_of_getElem? (i := 1008) rfl, List.mem_of_getElem? (i := 56) rfl, by decide +kernel, by decide⟩
set_option maxRecDepth 100000 in
theorem lbX7_areSo : sm_LB MX7_areSo 0 := ⟨by decide, List.mem_of_getElem? (i := 1012) rfl, List.mem_of_getElem? (i := 56) rfl, by decide +kernel, by decide⟩
set_option maxRecDepth 100000 in
theorem lbX7_kinds : sm_LB MX7_kinds 1 := ⟨by decide, List.mem_of_getElem? (i := 1016) rfl, List.mem_of_getElem? (i := 56) rfl, by decide +kernel, by decide⟩
set_option maxRecDepth 100000 in
theorem lbX7_depths : sm_LB MX7_depths 1 := ⟨by decide, List.mem_of_getElem? (i := 1020) rfl, List.mem_of_getElem? (i := 56) rfl, by decide +kernel, by decide⟩
set_option maxRecDepth 100000 in
theorem lbX7_falls : sm_LB MX7_falls 1 := ⟨by decide, List.mem_of_getElem? (i := 1024) rfl, List.mem_of_getElem? (i := 56) rfl, by decide +kernel, by decide⟩
set_option maxRecDepth 100000 in
theorem lbX7_odds : sm_LB MX7_odds 3 := ⟨by decide, List.mem_of_getElem? (i := 1028) rfl, List.mem_of_getElem? (i := 56) rfl, by decide +kernel, by decide⟩
set_option maxRecDepth 100000 in
theorem lbX7_lost : sm_LB MX7_lost 0 := ⟨by decide, List.mem_of_getElem? (i := 1031) rfl, List.mem_of_getElem? (i := 56) rfl, by decide +kernel, by decide⟩
set_option maxRecDepth 100000 in
theorem lbX7_blow : sm_LB MX7_blow 2 := ⟨by decide, List.mem_of_getElem? (i := 1036) rfl, List.mem_of_getElem? (i := 56) rfl, by decide +kernel, by decide⟩
set_option maxRecDepth 100000 in
theorem lbX7_share : sm_LB MX7_share 3 := ⟨by decide, List.mem_of_getElem? (i := 1039) rfl, List.mem_of_getElem? (i := 56) rfl, by decide +kernel, by decide⟩
set_option maxRecDepth 100000 in
theorem lbX7_sheet : sm_LB MX7_sheet 3 := ⟨by decide, List.mem_of_getElem? (i := 1043) rfl, List.mem_of_getElem? (i := 56) rfl, by decide +kernel, by decide⟩
set_option maxRecDepth 100000 in
theorem lbX7_lose : sm_LB MX7_lose 1 := ⟨by decide, List.mem_of_getElem? (i := 1047) rfl, List.mem_of_getElem? (i := 56) rfl, by decide +kernel, by decide⟩
set_option maxRecDepth 100000 in
theorem lbX7_put : sm_LB MX7_put 3 := ⟨by decide, List.mem_of_getElem? (i := 1051) rfl, List.mem_of_getElem? (i := 56) rfl, by decide +kernel, by decide⟩
set_option maxRecDepth 100000 in
theorem lbX7_noCell : sm_LB MX7_noCell 2 := ⟨by decide, List.mem_of_getElem? (i := 1055) rfl, List.mem_of_getElem? (i := 56) rfl, by decide +kernel, by decide⟩
set_option maxRecDepth 100000 in
theorem lbX7_cell : sm_LB MX7_cell 3 := ⟨by decide, List.mem_of_getElem? (i := 1059) rfl, List.mem_of_getElem? (i := 56) rfl, by decide +kernel, by decide⟩
set_option maxRecDepth 100000 in
theorem lbX7_failedLong : sm_LB MX7_failedLong 1 := ⟨by decide, List.mem_of_getElem? (i := 1063) rfl, List.mem_of_getElem? (i := 56) rfl, by decide +kernel, by decide⟩
set_option maxRecDepth 100000 in
theorem lbX7_copy : sm_LB MX7_copy 5 := ⟨by decide, List.mem_of_getElem? (i := 1067) rfl, List.mem_of_getElem? (i := 56) rfl, by decide +kernel, by decide⟩
set_option maxRecDepth 100000 in
theorem lbX7_tell : sm_LB MX7_tell 1 := ⟨by decide, List.mem_of_getElem? (i := 1071) rfl, List.mem_of_getElem? (i := 56) rfl, by decide +kernel, by decide⟩
set_option maxRecDepth 100000 in
theorem lbX7_traced : sm_LB MX7_traced 1 := ⟨by decide, List.mem_of_getElem? (i := 1075) rfl, List.mem_of_getElem? (i := 56) rfl, by decide +kernel, by decide⟩
set_option maxRecDepth 100000 in
theorem lbX7_light : sm_LB MX7_light 1 := ⟨by decide, List.mem_of_getElem? (i := 1079) rfl, List.mem_of_getElem? (i := 56) rfl, by decide +kernel, by decide⟩
set_option maxRecDepth 100000 in
theorem lbX7_as : sm_LB MX7_as 2 := ⟨by decide, List.mem_of_getElem? (i := 1083) rfl, List.mem_of_getElem? (i := 56) rfl, by decide +kernel, by decide⟩
set_option maxRecDepth 100000 in
theorem lbX7_trace : sm_LB MX7_trace 0 := ⟨by decide, List.mem_of_getElem? (i := 1087) rfl, List.mem_of_getElem? (i := 56) rfl, by decide +kernel, by decide⟩
set_option maxRecDepth 100000 in
theorem lbX7_fault : sm_LB MX7_fault 0 := ⟨by decide, List.mem_of_getElem? (i := 1091) rfl, List.mem_of_getElem? (i := 56) rfl, by decide +kernel, by decide⟩
set_option maxRecDepth 100000 in
theorem lbX7_many : sm_LB MX7_many 1 := ⟨by decide, List.mem_of_getElem? (i := 1095) rfl, List.mem_of_getElem? (i := 56) rfl, by decide +kernel, by decide⟩
set_option maxRecDepth 100000 in
theorem fX2_9 : sm_FI RX2 9 2 0 := ⟨rfl, by decide, by decide +kernel, List.mem_of_getElem? (i := 77) rfl⟩
set_option maxRecDepth 100000 in
theorem fX5_41 : sm_FI RX5 41 2 0 := ⟨rfl, by decide, by decide +kernel, List.mem_of_getElem? (i := 78) rfl⟩
set_option maxRecDepth 100000 in
theorem fX0_39 : sm_FI RX0 39 2 0 := ⟨rfl, by decide, by decide +kernel, List.mem_of_getElem? (i := 79) rfl⟩
set_option maxRecDepth 100000 in
theorem fX4_49 : sm_FI RX4 49 2 0 := ⟨rfl, by decide, by decide +kernel, List.mem_of_getElem? (i := 80) rfl⟩
set_option maxRecDepth 100000 in
theorem fX6_249 : sm_FI RX6 249 2 0 := ⟨rfl, by decide, by decide +kernel, List.mem_of_getElem? (i := 81) rfl⟩
set_option maxRecDepth 100000 in
theorem fX2_15 : sm_FR RX2 15 2 1 := ⟨rfl, by decide, by decide +kernel, List.mem_of_getElem? (i := 82) rfl⟩
set_option maxRecDepth 100000 in
theorem fX6_100 : sm_FR RX6 100 2 1 := ⟨rfl, by decide, by decide +kernel, List.mem_of_getElem? (i := 83) rfl⟩
set_option maxRecDepth 100000 in
theorem fX4_60 : sm_FR RX4 60 2 1 := ⟨rfl, by decide, by decide +kernel, List.mem_of_getElem? (i := 84) rfl⟩
set_option maxRecDepth 100000 in
theorem fX5_92 : sm_FR RX5 92 2 1 := ⟨rfl, by decide, by decide +kernel, List.mem_of_getElem? (i := 85) rfl⟩
set_option maxRecDepth 100000 in
theorem fX2_19 : sm_FR RX2 19 2 2 := ⟨rfl, by decide, by decide +kernel, List.mem_of_getElem? (i := 86) rfl⟩
set_option maxRecDepth 100000 in
theorem fX5_52 : sm_FR RX5 52 2 2 := ⟨rfl, by decide, by decide +kernel, List.mem_of_getElem? (i := 87) rfl⟩
set_option maxRecDepth 100000 in
theorem fX0_43 : sm_FR RX0 43 2 2 := ⟨rfl, by decide, by decide +kernel, List.mem_of_getElem? (i := 88) rfl⟩
set_option maxRecDepth 100000 in
theorem fX6_104 : sm_FR RX6 104 2 2 := ⟨rfl, by decide, by decide +kernel, List.mem_of_getElem? (i := 89) rfl⟩
set_option maxRecDepth 100000 in
theorem fX4_63 : sm_FR RX4 63 2 2 := ⟨rfl, by decide, by decide +kernel, List.mem_of_getElem? (i := 90) rfl⟩
set_option maxRecDepth 100000 in
theorem fX2_22 : sm_FI RX2 22 2 3 := ⟨rfl, by decide, by decide +kernel, List.mem_of_getElem? (i := 91) rfl⟩
set_option maxRecDepth 100000 in
theorem fX4_66 : sm_FI RX4 66 2 3 := ⟨rfl, by decide, by decide +kernel, List.mem_of_getElem? (i := 92) rfl⟩
set_option maxRecDepth 100000 in
theorem fX5_98 : sm_FI RX5 98 2 3 := ⟨rfl, by decide, by decide +kernel, List.mem_of_getElem? (i := 93) rfl⟩
set_option maxRecDepth 100000 in
theorem fX6_164 : sm_FI RX6 164 2 3 := ⟨rfl, by decide, by decide +kernel, List.mem_of_getElem? (i := 94) rfl⟩
set_option maxRecDepth 100000 in
theorem fX2_25 : sm_FR RX2 25 2 4 := ⟨rfl, by decide, by decide +kernel, List.mem_of_getElem? (i := 95) rfl⟩
set_option maxRecDepth 100000 in
theorem fX0_30 : sm_FR RX0 30 2 4 := ⟨rfl, by decide, by decide +kernel, List.mem_of_getElem? (i := 96) rfl⟩
set_option maxRecDepth 100000 in
theorem fX5_64 : sm_FR RX5 64 2 4 := ⟨rfl, by decide, by decide +kernel, List.mem_of_getElem? (i := 97) rfl⟩
set_option maxRecDepth 100000 in
theorem fX6_127 : sm_FR RX6 127 2 4 := ⟨rfl, by decide, by decide +kernel, List.mem_of_getElem? (i := 98) rfl⟩
set_option maxRecDepth 100000 in
theorem fX4_69 : sm_FR RX4 69 2 4 := ⟨rfl, by decide, by decide +kernel, List.mem_of_getElem? (i := 99) rfl⟩
set_option maxRecDepth 100000 in
theorem fX2_28 : sm_FR RX2 28 2 5 := ⟨rfl, by decide, by decide +kernel, List.mem_of_getElem? (i := 100) rfl⟩
set_option maxRecDepth 100000 in
theorem fX0_61 : sm_FR RX0 61 2 5 := ⟨rfl, by decide, by decide +kernel, List.mem_of_getElem? (i := 101) rfl⟩
set_option maxRecDepth 100000 in
theorem fX6_130 : sm_FR RX6 130 2 5 := ⟨rfl, by decide, by decide +kernel, List.mem_of_getElem? (i := 102) rfl⟩
set_option maxRecDepth 100000 in
theorem fX4_72 : sm_FR RX4 72 2 5 := ⟨rfl, by decide, by decide +kernel, List.mem_of_getElem? (i := 103) rfl⟩
set_option maxRecDepth 100000 in
theorem fX5_95 : sm_FR RX5 95 2 5 := ⟨rfl, by decide, by decide +kernel, List.mem_of_getElem? (i := 104) rfl⟩
set_option maxRecDepth 100000 in
theorem fX2_31 : sm_FI RX2 31 2 6 := ⟨rfl, by decide, by decide +kernel, List.mem_of_getElem? (i := 105) rfl⟩
set_option maxRecDepth 100000 in
theorem fX6_94 : sm_FI RX6 94 2 6 := ⟨rfl, by decide, by decide +kernel, List.mem_of_getElem? (i := 106) rfl⟩
set_option maxRecDepth 100000 in
theorem fX0_45 : sm_FI RX0 45 2 6 := ⟨rfl, by decide, by decide +kernel, List.mem_of_getElem? (i := 107) rfl⟩
set_option maxRecDepth 100000 in
theorem fX4_75 : sm_FI RX4 75 2 6 := ⟨rfl, by decide, by decide +kernel, List.mem_of_getElem? (i := 108) rfl⟩
set_option maxRecDepth 100000 in
theorem fX2_34 : sm_FR RX2 34 2 7 := ⟨rfl, by decide, by decide +kernel, List.mem_of_getElem? (i := 109) rfl⟩
set_option maxRecDepth 100000 in
theorem fX6_114 : sm_FR RX6 114 2 7 := ⟨rfl, by decide, by decide +kernel, List.mem_of_getElem? (i := 110) rfl⟩
set_option maxRecDepth 100000 in
theorem fX4_78 : sm_FR RX4 78 2 7 := ⟨rfl, by decide, by decide +kernel, List.mem_of_getElem? (i := 111) rfl⟩
set_option maxRecDepth 100000 in
theorem fX2_37 : sm_FR RX2 37 2 8 := ⟨rfl, by decide, by decide +kernel, List.mem_of_getElem? (i := 112) rfl⟩
set_option maxRecDepth 100000 in
theorem fX0_47 : sm_FR RX0 47 2 8 := ⟨rfl, by decide, by decide +kernel, List.mem_of_getElem? (i := 113) rfl⟩
set_option maxRecDepth 100000 in
theorem fX6_117 : sm_FR RX6 117 2 8 := ⟨rfl, by decide, by decide +kernel, List.mem_of_getElem? (i := 114) rfl⟩
set_option maxRecDepth 100000 in
theorem fX4_81 : sm_FR RX4 81 2 8 := ⟨rfl, by decide, by decide +kernel, List.mem_of_getElem? (i := 115) rfl⟩
set_option maxRecDepth 100000 in
theorem fX2_40 : sm_FI RX2 40 2 9 := ⟨rfl, by decide, by decide +kernel, List.mem_of_getElem? (i := 116) rfl⟩
set_option maxRecDepth 100000 in
theorem fX0_78 : sm_FI RX0 78 2 9 := ⟨rfl, by decide, by decide +kernel, List.mem_of_getElem? (i := 117) rfl⟩
set_option maxRecDepth 100000 in
theorem fX6_133 : sm_FI RX6 133 2 9 := ⟨rfl, by decide, by decide +kernel, List.mem_of_getElem? (i := 118) rfl⟩
set_option maxRecDepth 100000 in
theorem fX5_86 : sm_FI RX5 86 2 9 := ⟨rfl, by decide, by decide +kernel, List.mem_of_getElem? (i := 119) rfl⟩
set_option maxRecDepth 100000 in
theorem fX2_43 : sm_FI RX2 43 2 10 := ⟨rfl, by decide, by decide +kernel, List.mem_of_getElem? (i := 120) rfl⟩
set_option maxRecDepth 100000 in
theorem fX5_71 : sm_FI RX5 71 2 10 := ⟨rfl, by decide, by decide +kernel, List.mem_of_getElem? (i := 121) rfl⟩
set_option maxRecDepth 100000 in
theorem fX0_23 : sm_FR RX0 23 0 0 := ⟨rfl, by decide, by decide +kernel, List.mem_of_getElem? (i := 154) rfl⟩
set_option maxRecDepth 100000 in
theorem fX0_11 : sm_FR RX0 11 0 1 := ⟨rfl, by decide, by decide +kernel, List.mem_of_getElem? (i := 155) rfl⟩
set_option maxRecDepth 100000 in
theorem fX6_149 : sm_FR RX6 149 0 1 := ⟨rfl, by decide, by decide +kernel, List.mem_of_getElem? (i := 156) rfl⟩
set_option maxRecDepth 100000 in
theorem fX0_16 : sm_FR RX0 16 0 2 := ⟨rfl, by decide, by decide +kernel, List.mem_of_getElem? (i := 157) rfl⟩
set_option maxRecDepth 100000 in
theorem fX6_155 : sm_FR RX6 155 0 2 := ⟨rfl, by decide, by decide +kernel, List.mem_of_getElem? (i := 158) rfl⟩
set_option maxRecDepth 100000 in
theorem fX0_19 : sm_FR RX0 19 0 3 := ⟨rfl, by decide, by decide +kernel, List.mem_of_getElem? (i := 159) rfl⟩
set_option maxRecDepth 100000 in
theorem fX1_9 : sm_FI RX1 9 1 0 := ⟨rfl, by decide, by decide +kernel, List.mem_of_getElem? (i := 175) rfl⟩
set_option maxRecDepth 100000 in
theorem fX6_178 : sm_FI RX6 178 1 0 := ⟨rfl, by decide, by decide +kernel, List.mem_of_getElem? (i := 176) rfl⟩
set_option maxRecDepth 100000 in
theorem fX1_15 : sm_FR RX1 15 1 1 := ⟨rfl, by decide, by decide +kernel, List.mem_of_getElem? (i := 177) rfl⟩
set_option maxRecDepth 100000 in
theorem fX1_19 : sm_FR RX1 19 1 2 := ⟨rfl, by decide, by decide +kernel, List.mem_of_getElem? (i := 178) rfl⟩
set_option maxRecDepth 100000 in
theorem fX1_22 : sm_FR RX1 22 1 3 := ⟨rfl, by decide, by decide +kernel, List.mem_of_getElem? (i := 179) rfl⟩
set_option maxRecDepth 100000 in
theorem fX5_27 : sm_FR RX5 27 5 0 := ⟨rfl, by decide, by decide +kernel, List.mem_of_getElem? (i := 199) rfl⟩
set_option maxRecDepth 100000 in
theorem fX5_30 : sm_FR RX5 30 5 1 := ⟨rfl, by decide, by decide +kernel, List.mem_of_getElem? (i := 200) rfl⟩
set_option maxRecDepth 100000 in
theorem fX5_12 : sm_FR RX5 12 5 2 := ⟨rfl, by decide, by decide +kernel, List.mem_of_getElem? (i := 201) rfl⟩
set_option maxRecDepth 100000 in
theorem fX5_23 : sm_FR RX5 23 5 3 := ⟨rfl, by decide, by decide +kernel, List.mem_of_getElem? (i := 202) rfl⟩
set_option maxRecDepth 100000 in
theorem fX3_9 : sm_FR RX3 9 3 0 := ⟨rfl, by decide, by decide +kernel, List.mem_of_getElem? (i := 217) rfl⟩
set_option maxRecDepth 100000 in
theorem fX4_15 : sm_FR RX4 15 3 0 := ⟨rfl, by decide, by decide +kernel, List.mem_of_getElem? (i := 218) rfl⟩
set_option maxRecDepth 100000 in
theorem fX6_218 : sm_FR RX6 218 3 0 := ⟨rfl, by decide, by decide +kernel, List.mem_of_getElem? (i := 219) rfl⟩
set_option maxRecDepth 100000 in
theorem fX3_15 : sm_FI RX3 15 3 1 := ⟨rfl, by decide, by decide +kernel, List.mem_of_getElem? (i := 220) rfl⟩
set_option maxRecDepth 100000 in
theorem fX6_221 : sm_FI RX6 221 3 1 := ⟨rfl, by decide, by decide +kernel, List.mem_of_getElem? (i := 221) rfl⟩
set_option maxRecDepth 100000 in
theorem fX3_19 : sm_FI RX3 19 3 2 := ⟨rfl, by decide, by decide +kernel, List.mem_of_getElem? (i := 222) rfl⟩
set_option maxRecDepth 100000 in
theorem fX6_13 : sm_FR RX6 13 6 0 := ⟨rfl, by decide, by decide +kernel, List.mem_of_getElem? (i := 230) rfl⟩
set_option maxRecDepth 100000 in
theorem fX6_20 : sm_FR RX6 20 6 1 := ⟨rfl, by decide, by decide +kernel, List.mem_of_getElem? (i := 231) rfl⟩
set_option maxRecDepth 100000 in
theorem fX6_24 : sm_FR RX6 24 6 2 := ⟨rfl, by decide, by decide +kernel, List.mem_of_getElem? (i := 232) rfl⟩
set_option maxRecDepth 100000 in
theorem fX6_32 : sm_FR RX6 32 6 3 := ⟨rfl, by decide, by decide +kernel, List.mem_of_getElem? (i := 233) rfl⟩
set_option maxRecDepth 100000 in
theorem fX6_39 : sm_FR RX6 39 6 4 := ⟨rfl, by decide, by decide +kernel, List.mem_of_getElem? (i := 234) rfl⟩
set_option maxRecDepth 100000 in
theorem fX6_48 : sm_FR RX6 48 6 5 := ⟨rfl, by decide, by decide +kernel, List.mem_of_getElem? (i := 235) rfl⟩
set_option maxRecDepth 100000 in
theorem fX6_52 : sm_FI RX6 52 6 6 := ⟨rfl, by decide, by decide +kernel, List.mem_of_getElem? (i := 236) rfl⟩
set_option maxRecDepth 100000 in
theorem fX6_56 : sm_FI RX6 56 6 7 := ⟨rfl, by decide, by decide +kernel, List.mem_of_getElem? (i := 237) rfl⟩
set_option maxRecDepth 100000 in
theorem fX4_21 : sm_FR RX4 21 4 0 := ⟨rfl, by decide, by decide +kernel, List.mem_of_getElem? (i := 291) rfl⟩
set_option maxRecDepth 100000 in
theorem fX4_24 : sm_FI RX4 24 4 1 := ⟨rfl, by decide, by decide +kernel, List.mem_of_getElem? (i := 292) rfl⟩
set_option maxRecDepth 100000 in
theorem fX4_27 : sm_FI RX4 27 4 2 := ⟨rfl, by decide, by decide +kernel, List.mem_of_getElem? (i := 293) rfl⟩
set_option maxRecDepth 100000 in
theorem fX4_9 : sm_FI RX4 9 4 3 := ⟨rfl, by decide, by decide +kernel, List.mem_of_getElem? (i := 294) rfl⟩
set_option maxRecDepth 100000 in
theorem fX7_79 : sm_FI RX7 79 7 0 := ⟨rfl, by decide, by decide +kernel, List.mem_of_getElem? (i := 714) rfl⟩
set_option maxRecDepth 100000 in
theorem fX7_86 : sm_FI RX7 86 7 1 := ⟨rfl, by decide, by decide +kernel, List.mem_of_getElem? (i := 715) rfl⟩
set_option maxRecDepth 100000 in
theorem fX7_7 : sm_FR RX7 7 7 2 := ⟨rfl, by decide, by decide +kernel, List.mem_of_getElem? (i := 716) rfl⟩
set_option maxRecDepth 100000 in
theorem fX7_13 : sm_FR RX7 13 7 3 := ⟨rfl, by decide, by decide +kernel, List.mem_of_getElem? (i := 717) rfl⟩
set_option maxRecDepth 100000 in
theorem fX7_96 : sm_FI RX7 96 7 4 := ⟨rfl, by decide, by decide +kernel, List.mem_of_getElem? (i := 718) rfl⟩
set_option maxRecDepth 100000 in
theorem fX7_16 : sm_FR RX7 16 7 5 := ⟨rfl, by decide, by decide +kernel, List.mem_of_getElem? (i := 719) rfl⟩
set_option maxRecDepth 100000 in
theorem fX7_19 : sm_FR RX7 19 7 6 := ⟨rfl, by decide, by decide +kernel, List.mem_of_getElem? (i := 720) rfl⟩
set_option maxRecDepth 100000 in
theorem fX7_93 : sm_FI RX7 93 7 7 := ⟨rfl, by decide, by decide +kernel, List.mem_of_getElem? (i := 721) rfl⟩
set_option maxRecDepth 100000 in
theorem fX7_22 : sm_FR RX7 22 7 8 := ⟨rfl, by decide, by decide +kernel, List.mem_of_getElem? (i := 722) rfl⟩
set_option maxRecDepth 100000 in
theorem fX7_25 : sm_FR RX7 25 7 9 := ⟨rfl, by decide, by decide +kernel, List.mem_of_getElem? (i := 723) rfl⟩
set_option maxRecDepth 100000 in
theorem fX7_153 : sm_FI RX7 153 7 10 := ⟨rfl, by decide, by decide +kernel, List.mem_of_getElem? (i := 724) rfl⟩
set_option maxRecDepth 100000 in
theorem fX7_73 : sm_FI RX7 73 7 11 := ⟨rfl, by decide, by decide +kernel, List.mem_of_getElem? (i := 725) rfl⟩
set_option maxRecDepth 100000 in
theorem fX7_99 : sm_FI RX7 99 7 12 := ⟨rfl, by decide, by decide +kernel, List.mem_of_getElem? (i := 726) rfl⟩
set_option maxRecDepth 100000 in
theorem fX7_106 : sm_FI RX7 106 7 13 := ⟨rfl, by decide, by decide +kernel, List.mem_of_getElem? (i := 727) rfl⟩
set_option maxRecDepth 100000 in
theorem fX7_113 : sm_FI RX7 113 7 14 := ⟨rfl, by decide, by decide +kernel, List.mem_of_getElem? (i := 728) rfl⟩
set_option maxRecDepth 100000 in
theorem fX7_116 : sm_FI RX7 116 7 15 := ⟨rfl, by decide, by decide +kernel, List.mem_of_getElem? (i := 729) rfl⟩
set_option maxRecDepth 100000 in
theorem fX7_28 : sm_FR RX7 28 7 16 := ⟨rfl, by decide, by decide +kernel, List.mem_of_getElem? (i := 730) rfl⟩
set_option maxRecDepth 100000 in
theorem fX7_31 : sm_FR RX7 31 7 17 := ⟨rfl, by decide, by decide +kernel, List.mem_of_getElem? (i := 731) rfl⟩
set_option maxRecDepth 100000 in
theorem fX7_34 : sm_FR RX7 34 7 18 := ⟨rfl, by decide, by decide +kernel, List.mem_of_getElem? (i := 732) rfl⟩
set_option maxRecDepth 100000 in
theorem fX7_37 : sm_FR RX7 37 7 19 := ⟨rfl, by decide, by decide +kernel, List.mem_of_getElem? (i := 733) rfl⟩
set_option maxRecDepth 100000 in
theorem fX7_40 : sm_FR RX7 40 7 20 := ⟨rfl, by decide, by decide +kernel, List.mem_of_getElem? (i := 734) rfl⟩
set_option maxRecDepth 100000 in
theorem fX7_43 : sm_FR RX7 43 7 21 := ⟨rfl, by decide, by decide +kernel, List.mem_of_getElem? (i := 735) rfl⟩
set_option maxRecDepth 100000 in
theorem fX7_46 : sm_FR RX7 46 7 22 := ⟨rfl, by decide, by decide +kernel, List.mem_of_getElem? (i := 736) rfl⟩
set_option maxRecDepth 100000 in
theorem fX7_49 : sm_FR RX7 49 7 23 := ⟨rfl, by decide, by decide +kernel, List.mem_of_getElem? (i := 737) rfl⟩
set_option maxRecDepth 100000 in
theorem fX7_179 : sm_FI RX7 179 7 24 := ⟨rfl, by decide, by decide +kernel, List.mem_of_getElem? (i := 738) rfl⟩
set_option maxRecDepth 100000 in
theorem fX7_156 : sm_FI RX7 156 7 25 := ⟨rfl, by decide, by decide +kernel, List.mem_of_getElem? (i := 739) rfl⟩
set_option maxRecDepth 100000 in
theorem fX7_52 : sm_FR RX7 52 7 26 := ⟨rfl, by decide, by decide +kernel, List.mem_of_getElem? (i := 740) rfl⟩
set_option maxRecDepth 100000 in
theorem fX7_55 : sm_FR RX7 55 7 27 := ⟨rfl, by decide, by decide +kernel, List.mem_of_getElem? (i := 741) rfl⟩
set_option maxRecDepth 100000 in
theorem fX7_58 : sm_FR RX7 58 7 28 := ⟨rfl, by decide, by decide +kernel, List.mem_of_getElem? (i := 742) rfl⟩
set_option maxRecDepth 100000 in
theorem fX7_61 : sm_FR RX7 61 7 29 := ⟨rfl, by decide, by decide +kernel, List.mem_of_getElem? (i := 743) rfl⟩
set_option maxRecDepth 100000 in
theorem fX7_64 : sm_FR RX7 64 7 30 := ⟨rfl, by decide, by decide +kernel, List.mem_of_getElem? (i := 744) rfl⟩
set_option maxRecDepth 100000 in
theorem fX7_67 : sm_FR RX7 67 7 31 := ⟨rfl, by decide, by decide +kernel, List.mem_of_getElem? (i := 745) rfl⟩
set_option maxRecDepth 100000 in
theorem fX7_70 : sm_FR RX7 70 7 32 := ⟨rfl, by decide, by decide +kernel, List.mem_of_getElem? (i := 746) rfl⟩
set_option maxRecDepth 100000 in
theorem fX7_238 : sm_FI RX7 238 7 33 := ⟨rfl, by decide, by decide +kernel, List.mem_of_getElem? (i := 747) rfl⟩
set_option maxRecDepth 100000 in
theorem lL_9 : sm_LI RL 9 MX6_init 0 := ⟨lbX6_init, List.mem_of_getElem? (i := 63) rfl, List.mem_of_getElem? (i := 64) rfl, rfl, rfl⟩
set_option maxRecDepth 100000 in
theorem lX6_19 : sm_LN RX6 19 MX2_init 0 := ⟨lbX2_init, List.mem_of_getElem? (i := 73) rfl, List.mem_of_getElem? (i := 74) rfl, rfl, rfl⟩
set_option maxRecDepth 100000 in
theorem lX6_29 : sm_LI RX6 29 MX0_init 1 := ⟨lbX0_init, List.mem_of_getElem? (i := 148) rfl, List.mem_of_getElem? (i := 149) rfl, rfl, rfl⟩
set_option maxRecDepth 100000 in
theorem lX6_38 : sm_LN RX6 38 MX1_init 0 := ⟨lbX1_init, List.mem_of_getElem? (i := 171) rfl, List.mem_of_getElem? (i := 172) rfl, rfl, rfl⟩
set_option maxRecDepth 100000 in
theorem lX6_45 : sm_LI RX6 45 MX5_init 2 := ⟨lbX5_init, List.mem_of_getElem? (i := 191) rfl, List.mem_of_getElem? (i := 192) rfl, rfl, rfl⟩
set_option maxRecDepth 100000 in
theorem lX5_11 : sm_LN RX5 11 MX2_init 0 := ⟨lbX2_init, List.mem_of_getElem? (i := 196) rfl, List.mem_of_getElem? (i := 74) rfl, rfl, rfl⟩
set_option maxRecDepth 100000 in
theorem lX5_20 : sm_LI RX5 20 MX0_init 1 := ⟨lbX0_init, List.mem_of_getElem? (i := 198) rfl, List.mem_of_getElem? (i := 149) rfl, rfl, rfl⟩
set_option maxRecDepth 100000 in
theorem lX6_59 : sm_LN RX6 59 MX3_init 0 := ⟨lbX3_init, List.mem_of_getElem? (i := 213) rfl, List.mem_of_getElem? (i := 214) rfl, rfl, rfl⟩
set_option maxRecDepth 100000 in
theorem lL_13 : sm_LV RL 13 MX6_ridge 4 := ⟨lbX6_ridge, List.mem_of_getElem? (i := 255) rfl, List.mem_of_getElem? (i := 256) rfl, List.mem_of_getElem? (i := 257) rfl⟩
set_option maxRecDepth 100000 in
theorem lX6_60 : sm_LS RX6 60 MX6_isSheet 1 := ⟨lbX6_isSheet, List.mem_of_getElem? (i := 259) rfl, List.mem_of_getElem? (i := 260) rfl⟩
set_option maxRecDepth 100000 in
theorem lX6_64 : sm_LS RX6 64 MX6_isLane 1 := ⟨lbX6_isLane, List.mem_of_getElem? (i := 262) rfl, List.mem_of_getElem? (i := 263) rfl⟩
set_option maxRecDepth 100000 in
theorem lX6_67 : sm_LV RX6 67 MX3_faultOfRow 3 := ⟨lbX3_faultOfRow, List.mem_of_getElem? (i := 265) rfl, List.mem_of_getElem? (i := 266) rfl, List.mem_of_getElem? (i := 267) rfl⟩
set_option maxRecDepth 100000 in
theorem lX3_22 : sm_LV RX3 22 MX3_faultOfLane 1 := ⟨lbX3_faultOfLane, List.mem_of_getElem? (i := 269) rfl, List.mem_of_getElem? (i := 271) rfl, List.mem_of_getElem? (i := 0) rfl⟩
set_option maxRecDepth 100000 in
theorem lX3_34 : sm_LV RX3 34 MX3_isThere 0 := ⟨lbX3_isThere, List.mem_of_getElem? (i := 273) rfl, List.mem_of_getElem? (i := 274) rfl, List.mem_of_getElem? (i := 275) rfl⟩
set_option maxRecDepth 100000 in
theorem lX3_30 : sm_LV RX3 30 MX3_hasCells 2 := ⟨lbX3_hasCells, List.mem_of_getElem? (i := 277) rfl, List.mem_of_getElem? (i := 278) rfl, List.mem_of_getElem? (i := 279) rfl⟩
set_option maxRecDepth 100000 in
theorem lX6_71 : sm_LV RX6 71 MX6_faulted 1 := ⟨lbX6_faulted, List.mem_of_getElem? (i := 281) rfl, List.mem_of_getElem? (i := 283) rfl, List.mem_of_getElem? (i := 1) rfl⟩
set_option maxRecDepth 100000 in
theorem lX6_77 : sm_LI RX6 77 MX4_init 3 := ⟨lbX4_init, List.mem_of_getElem? (i := 287) rfl, List.mem_of_getElem? (i := 288) rfl, rfl, rfl⟩
set_option maxRecDepth 100000 in
theorem lX6_80 : sm_LV RX6 80 MX4_readInto 1 := ⟨lbX4_readInto, List.mem_of_getElem? (i := 304) rfl, List.mem_of_getElem? (i := 305) rfl, List.mem_of_getElem? (i := 306) rfl⟩
set_option maxRecDepth 100000 in
theorem lX4_30 : sm_LV RX4 30 MX2_clear 0 := ⟨lbX2_clear, List.mem_of_getElem? (i := 308) rfl, List.mem_of_getElem? (i := 309) rfl, List.mem_of_getElem? (i := 310) rfl⟩
set_option maxRecDepth 100000 in
theorem lX4_35 : sm_LV RX4 35 MX4_takes 1 := ⟨lbX4_takes, List.mem_of_getElem? (i := 312) rfl, List.mem_of_getElem? (i := 314) rfl, List.mem_of_getElem? (i := 2) rfl⟩
set_option maxRecDepth 100000 in
theorem lX4_39 : sm_LV RX4 39 MX4_readInns 1 := ⟨lbX4_readInns, List.mem_of_getElem? (i := 316) rfl, List.mem_of_getElem? (i := 318) rfl, List.mem_of_getElem? (i := 3) rfl⟩
set_option maxRecDepth 100000 in
theorem lX4_52 : sm_LV RX4 52 MX4_takeKind 0 := ⟨lbX4_takeKind, List.mem_of_getElem? (i := 320) rfl, List.mem_of_getElem? (i := 322) rfl, List.mem_of_getElem? (i := 4) rfl⟩
set_option maxRecDepth 100000 in
theorem lX4_56 : sm_LV RX4 56 MX4_takeDigit 1 := ⟨lbX4_takeDigit, List.mem_of_getElem? (i := 324) rfl, List.mem_of_getElem? (i := 326) rfl, List.mem_of_getElem? (i := 5) rfl⟩
set_option maxRecDepth 100000 in
theorem lX4_43 : sm_LV RX4 43 MX4_readNights 1 := ⟨lbX4_readNights, List.mem_of_getElem? (i := 328) rfl, List.mem_of_getElem? (i := 330) rfl, List.mem_of_getElem? (i := 6) rfl⟩
set_option maxRecDepth 100000 in
theorem lX4_46 : sm_LV RX4 46 MX4_readGuests 1 := ⟨lbX4_readGuests, List.mem_of_getElem? (i := 332) rfl, List.mem_of_getElem? (i := 334) rfl, List.mem_of_getElem? (i := 7) rfl⟩
set_option maxRecDepth 100000 in
theorem lX6_84 : sm_LV RX6 84 MX4_place 0 := ⟨lbX4_place, List.mem_of_getElem? (i := 336) rfl, List.mem_of_getElem? (i := 337) rfl, List.mem_of_getElem? (i := 338) rfl⟩
set_option maxRecDepth 100000 in
theorem lX6_88 : sm_LV RX6 88 MX2_become 1 := ⟨lbX2_become, List.mem_of_getElem? (i := 340) rfl, List.mem_of_getElem? (i := 341) rfl, List.mem_of_getElem? (i := 342) rfl⟩
set_option maxRecDepth 100000 in
theorem lX6_91 : sm_LV RX6 91 MX1_clear 0 := ⟨lbX1_clear, List.mem_of_getElem? (i := 347) rfl, List.mem_of_getElem? (i := 348) rfl, List.mem_of_getElem? (i := 349) rfl⟩
set_option maxRecDepth 100000 in
theorem lL_18 : sm_LV RL 18 MX6_ofInn 2 := ⟨lbX6_ofInn, List.mem_of_getElem? (i := 351) rfl, List.mem_of_getElem? (i := 352) rfl, List.mem_of_getElem? (i := 353) rfl⟩
set_option maxRecDepth 100000 in
theorem lX6_97 : sm_LV RX6 97 MX2_hasInn 1 := ⟨lbX2_hasInn, List.mem_of_getElem? (i := 355) rfl, List.mem_of_getElem? (i := 356) rfl, List.mem_of_getElem? (i := 357) rfl⟩
set_option maxRecDepth 100000 in
theorem lX6_107 : sm_LV RX6 107 MX2_keepsBy 2 := ⟨lbX2_keepsBy, List.mem_of_getElem? (i := 359) rfl, List.mem_of_getElem? (i := 360) rfl, List.mem_of_getElem? (i := 361) rfl⟩
set_option maxRecDepth 100000 in
theorem lL_23 : sm_LV RL 23 MX6_ofGuest 2 := ⟨lbX6_ofGuest, List.mem_of_getElem? (i := 363) rfl, List.mem_of_getElem? (i := 364) rfl, List.mem_of_getElem? (i := 365) rfl⟩
set_option maxRecDepth 100000 in
theorem lX6_111 : sm_LV RX6 111 MX2_hasGuest 1 := ⟨lbX2_hasGuest, List.mem_of_getElem? (i := 367) rfl, List.mem_of_getElem? (i := 368) rfl, List.mem_of_getElem? (i := 369) rfl⟩
set_option maxRecDepth 100000 in
theorem lL_27 : sm_LV RL 27 MX6_ofNight 2 := ⟨lbX6_ofNight, List.mem_of_getElem? (i := 371) rfl, List.mem_of_getElem? (i := 372) rfl, List.mem_of_getElem? (i := 373) rfl⟩
set_option maxRecDepth 100000 in
theorem lX6_120 : sm_LV RX6 120 MX2_stands 0 := ⟨lbX2_stands, List.mem_of_getElem? (i := 375) rfl, List.mem_of_getElem? (i := 376) rfl, List.mem_of_getElem? (i := 377) rfl⟩
set_option maxRecDepth 100000 in
theorem lX6_124 : sm_LV RX6 124 MX2_hasNight 1 := ⟨lbX2_hasNight, List.mem_of_getElem? (i := 379) rfl, List.mem_of_getElem? (i := 380) rfl, List.mem_of_getElem? (i := 381) rfl⟩
set_option maxRecDepth 100000 in
theorem lL_31 : sm_LV RL 31 MX6_rule 1 := ⟨lbX6_rule, List.mem_of_getElem? (i := 383) rfl, List.mem_of_getElem? (i := 384) rfl, List.mem_of_getElem? (i := 385) rfl⟩
set_option maxRecDepth 100000 in
theorem lL_36 : sm_LV RL 36 MX6_fall 2 := ⟨lbX6_fall, List.mem_of_getElem? (i := 387) rfl, List.mem_of_getElem? (i := 388) rfl, List.mem_of_getElem? (i := 389) rfl⟩
set_option maxRecDepth 100000 in
theorem lL_40 : sm_LV RL 40 MX6_gust 2 := ⟨lbX6_gust, List.mem_of_getElem? (i := 391) rfl, List.mem_of_getElem? (i := 392) rfl, List.mem_of_getElem? (i := 393) rfl⟩
set_option maxRecDepth 100000 in
theorem lL_45 : sm_LV RL 45 MX6_lodge 2 := ⟨lbX6_lodge, List.mem_of_getElem? (i := 395) rfl, List.mem_of_getElem? (i := 396) rfl, List.mem_of_getElem? (i := 397) rfl⟩
set_option maxRecDepth 100000 in
theorem lL_49 : sm_LV RL 49 MX6_sweep 3 := ⟨lbX6_sweep, List.mem_of_getElem? (i := 399) rfl, List.mem_of_getElem? (i := 400) rfl, List.mem_of_getElem? (i := 401) rfl⟩
set_option maxRecDepth 100000 in
theorem lX6_136 : sm_LV RX6 136 MX2_sweepOver 3 := ⟨lbX2_sweepOver, List.mem_of_getElem? (i := 403) rfl, List.mem_of_getElem? (i := 404) rfl, List.mem_of_getElem? (i := 405) rfl⟩
set_option maxRecDepth 100000 in
theorem lL_54 : sm_LV RL 54 MX6_where 2 := ⟨lbX6_where, List.mem_of_getElem? (i := 410) rfl, List.mem_of_getElem? (i := 411) rfl, List.mem_of_getElem? (i := 412) rfl⟩
set_option maxRecDepth 100000 in
theorem lX6_139 : sm_LV RX6 139 MX2_countsNights 1 := ⟨lbX2_countsNights, List.mem_of_getElem? (i := 414) rfl, List.mem_of_getElem? (i := 415) rfl, List.mem_of_getElem? (i := 416) rfl⟩
set_option maxRecDepth 100000 in
theorem lX6_142 : sm_LV RX6 142 MX0_run 1 := ⟨lbX0_run, List.mem_of_getElem? (i := 418) rfl, List.mem_of_getElem? (i := 419) rfl, List.mem_of_getElem? (i := 420) rfl⟩
set_option maxRecDepth 100000 in
theorem lX0_27 : sm_LV RX0 27 MX0_begin 0 := ⟨lbX0_begin, List.mem_of_getElem? (i := 422) rfl, List.mem_of_getElem? (i := 423) rfl, List.mem_of_getElem? (i := 424) rfl⟩
set_option maxRecDepth 100000 in
theorem lX0_35 : sm_LV RX0 35 MX0_pass 2 := ⟨lbX0_pass, List.mem_of_getElem? (i := 426) rfl, List.mem_of_getElem? (i := 427) rfl, List.mem_of_getElem? (i := 428) rfl⟩
set_option maxRecDepth 100000 in
theorem lX0_50 : sm_LV RX0 50 MX0_snow 1 := ⟨lbX0_snow, List.mem_of_getElem? (i := 430) rfl, List.mem_of_getElem? (i := 432) rfl, List.mem_of_getElem? (i := 8) rfl⟩
set_option maxRecDepth 100000 in
theorem lX0_54 : sm_LV RX0 54 MX2_roomBy 2 := ⟨lbX2_roomBy, List.mem_of_getElem? (i := 438) rfl, List.mem_of_getElem? (i := 439) rfl, List.mem_of_getElem? (i := 440) rfl⟩
set_option maxRecDepth 100000 in
theorem lX2_56 : sm_LV RX2 56 MX2_keepsBy 2 := ⟨lbX2_keepsBy, List.mem_of_getElem? (i := 442) rfl, List.mem_of_getElem? (i := 360) rfl, List.mem_of_getElem? (i := 361) rfl⟩
set_option maxRecDepth 100000 in
theorem lX0_58 : sm_LV RX0 58 MX0_keptOf 2 := ⟨lbX0_keptOf, List.mem_of_getElem? (i := 443) rfl, List.mem_of_getElem? (i := 445) rfl, List.mem_of_getElem? (i := 9) rfl⟩
set_option maxRecDepth 100000 in
theorem lX0_72 : sm_LS RX0 72 MJ6_bitCount_0f7a4 1 := ⟨lbJ6_bitCount_0f7a4, List.mem_of_getElem? (i := 447) rfl, List.mem_of_getElem? (i := 448) rfl⟩
set_option maxRecDepth 100000 in
theorem lX0_81 : sm_LS RX0 81 MX0_withoutLeast 2 := ⟨lbX0_withoutLeast, List.mem_of_getElem? (i := 453) rfl, List.mem_of_getElem? (i := 454) rfl⟩
set_option maxRecDepth 100000 in
theorem lX6_146 : sm_LV RX6 146 MX0_placeOf 2 := ⟨lbX0_placeOf, List.mem_of_getElem? (i := 456) rfl, List.mem_of_getElem? (i := 457) rfl, List.mem_of_getElem? (i := 458) rfl⟩
set_option maxRecDepth 100000 in
theorem lX0_84 : sm_LV RX0 84 MX0_isAt 3 := ⟨lbX0_isAt, List.mem_of_getElem? (i := 460) rfl, List.mem_of_getElem? (i := 461) rfl, List.mem_of_getElem? (i := 462) rfl⟩
set_option maxRecDepth 100000 in
theorem lL_58 : sm_LV RL 58 MX6_deep 2 := ⟨lbX6_deep, List.mem_of_getElem? (i := 464) rfl, List.mem_of_getElem? (i := 465) rfl, List.mem_of_getElem? (i := 466) rfl⟩
set_option maxRecDepth 100000 in
theorem lL_62 : sm_LV RL 62 MX6_beds 2 := ⟨lbX6_beds, List.mem_of_getElem? (i := 468) rfl, List.mem_of_getElem? (i := 469) rfl, List.mem_of_getElem? (i := 470) rfl⟩
set_option maxRecDepth 100000 in
theorem lX6_152 : sm_LV RX6 152 MX2_hasInnOrRoad 1 := ⟨lbX2_hasInnOrRoad, List.mem_of_getElem? (i := 472) rfl, List.mem_of_getElem? (i := 473) rfl, List.mem_of_getElem? (i := 474) rfl⟩
set_option maxRecDepth 100000 in
theorem lX2_52 : sm_LV RX2 52 MX2_stands 0 := ⟨lbX2_stands, List.mem_of_getElem? (i := 476) rfl, List.mem_of_getElem? (i := 376) rfl, List.mem_of_getElem? (i := 377) rfl⟩
set_option maxRecDepth 100000 in
theorem lL_66 : sm_LV RL 66 MX6_list 5 := ⟨lbX6_list, List.mem_of_getElem? (i := 477) rfl, List.mem_of_getElem? (i := 478) rfl, List.mem_of_getElem? (i := 479) rfl⟩
set_option maxRecDepth 100000 in
theorem lX6_157 : sm_LV RX6 157 MX6_firstElsewhere 4 := ⟨lbX6_firstElsewhere, List.mem_of_getElem? (i := 481) rfl, List.mem_of_getElem? (i := 483) rfl, List.mem_of_getElem? (i := 10) rfl⟩
set_option maxRecDepth 100000 in
theorem lL_71 : sm_LV RL 71 MX6_meet 1 := ⟨lbX6_meet, List.mem_of_getElem? (i := 485) rfl, List.mem_of_getElem? (i := 486) rfl, List.mem_of_getElem? (i := 487) rfl⟩
set_option maxRecDepth 100000 in
theorem lX6_161 : sm_LV RX6 161 MX2_membersOf 1 := ⟨lbX2_membersOf, List.mem_of_getElem? (i := 489) rfl, List.mem_of_getElem? (i := 490) rfl, List.mem_of_getElem? (i := 491) rfl⟩
set_option maxRecDepth 100000 in
theorem lX6_166 : sm_LV RX6 166 MX0_firstMeeting 2 := ⟨lbX0_firstMeeting, List.mem_of_getElem? (i := 493) rfl, List.mem_of_getElem? (i := 494) rfl, List.mem_of_getElem? (i := 495) rfl⟩
set_option maxRecDepth 100000 in
theorem lX0_88 : sm_LV RX0 88 MX0_isMeeting 2 := ⟨lbX0_isMeeting, List.mem_of_getElem? (i := 497) rfl, List.mem_of_getElem? (i := 498) rfl, List.mem_of_getElem? (i := 499) rfl⟩
set_option maxRecDepth 100000 in
theorem lL_75 : sm_LV RL 75 MX6_least 2 := ⟨lbX6_least, List.mem_of_getElem? (i := 501) rfl, List.mem_of_getElem? (i := 502) rfl, List.mem_of_getElem? (i := 503) rfl⟩
set_option maxRecDepth 100000 in
theorem lX6_169 : sm_LV RX6 169 MX5_leastSweep 2 := ⟨lbX5_leastSweep, List.mem_of_getElem? (i := 505) rfl, List.mem_of_getElem? (i := 506) rfl, List.mem_of_getElem? (i := 507) rfl⟩
set_option maxRecDepth 100000 in
theorem lX5_34 : sm_LV RX5 34 MX2_become 1 := ⟨lbX2_become, List.mem_of_getElem? (i := 509) rfl, List.mem_of_getElem? (i := 341) rfl, List.mem_of_getElem? (i := 342) rfl⟩
set_option maxRecDepth 100000 in
theorem lX5_37 : sm_LV RX5 37 MX0_leaveRoadEmpty 1 := ⟨lbX0_leaveRoadEmpty, List.mem_of_getElem? (i := 510) rfl, List.mem_of_getElem? (i := 511) rfl, List.mem_of_getElem? (i := 512) rfl⟩
set_option maxRecDepth 100000 in
theorem lX0_92 : sm_LV RX0 92 MX0_onRoad 1 := ⟨lbX0_onRoad, List.mem_of_getElem? (i := 514) rfl, List.mem_of_getElem? (i := 515) rfl, List.mem_of_getElem? (i := 516) rfl⟩
set_option maxRecDepth 100000 in
theorem lX5_45 : sm_LV RX5 45 MX5_sweepEmptiesRoad 4 := ⟨lbX5_sweepEmptiesRoad, List.mem_of_getElem? (i := 518) rfl, List.mem_of_getElem? (i := 520) rfl, List.mem_of_getElem? (i := 11) rfl⟩
set_option maxRecDepth 100000 in
theorem lX5_49 : sm_LV RX5 49 MX2_hasInn 1 := ⟨lbX2_hasInn, List.mem_of_getElem? (i := 522) rfl, List.mem_of_getElem? (i := 356) rfl, List.mem_of_getElem? (i := 357) rfl⟩
set_option maxRecDepth 100000 in
theorem lX5_56 : sm_LV RX5 56 MX2_sweepOver 3 := ⟨lbX2_sweepOver, List.mem_of_getElem? (i := 523) rfl, List.mem_of_getElem? (i := 404) rfl, List.mem_of_getElem? (i := 405) rfl⟩
set_option maxRecDepth 100000 in
theorem lL_79 : sm_LV RL 79 MX6_turn 2 := ⟨lbX6_turn, List.mem_of_getElem? (i := 524) rfl, List.mem_of_getElem? (i := 525) rfl, List.mem_of_getElem? (i := 526) rfl⟩
set_option maxRecDepth 100000 in
theorem lX6_172 : sm_LV RX6 172 MX5_firstTurn 2 := ⟨lbX5_firstTurn, List.mem_of_getElem? (i := 528) rfl, List.mem_of_getElem? (i := 529) rfl, List.mem_of_getElem? (i := 530) rfl⟩
set_option maxRecDepth 100000 in
theorem lX5_60 : sm_LV RX5 60 MX0_firstMeeting 2 := ⟨lbX0_firstMeeting, List.mem_of_getElem? (i := 532) rfl, List.mem_of_getElem? (i := 494) rfl, List.mem_of_getElem? (i := 495) rfl⟩
set_option maxRecDepth 100000 in
theorem lL_83 : sm_LV RL 83 MX6_corks 1 := ⟨lbX6_corks, List.mem_of_getElem? (i := 533) rfl, List.mem_of_getElem? (i := 534) rfl, List.mem_of_getElem? (i := 535) rfl⟩
set_option maxRecDepth 100000 in
theorem lX6_175 : sm_LV RX6 175 MX5_innsThatCork 1 := ⟨lbX5_innsThatCork, List.mem_of_getElem? (i := 537) rfl, List.mem_of_getElem? (i := 538) rfl, List.mem_of_getElem? (i := 539) rfl⟩
set_option maxRecDepth 100000 in
theorem lX5_67 : sm_LV RX5 67 MX5_manyOnRoad 1 := ⟨lbX5_manyOnRoad, List.mem_of_getElem? (i := 541) rfl, List.mem_of_getElem? (i := 543) rfl, List.mem_of_getElem? (i := 12) rfl⟩
set_option maxRecDepth 100000 in
theorem lX5_74 : sm_LV RX5 74 MX0_run 1 := ⟨lbX0_run, List.mem_of_getElem? (i := 545) rfl, List.mem_of_getElem? (i := 419) rfl, List.mem_of_getElem? (i := 420) rfl⟩
set_option maxRecDepth 100000 in
theorem lX5_78 : sm_LV RX5 78 MX0_onRoad 1 := ⟨lbX0_onRoad, List.mem_of_getElem? (i := 546) rfl, List.mem_of_getElem? (i := 515) rfl, List.mem_of_getElem? (i := 516) rfl⟩
set_option maxRecDepth 100000 in
theorem lX5_81 : sm_LS RX5 81 MJ6_bitCount_0f7a4 1 := ⟨lbJ6_bitCount_0f7a4, List.mem_of_getElem? (i := 547) rfl, List.mem_of_getElem? (i := 448) rfl⟩
set_option maxRecDepth 100000 in
theorem lL_87 : sm_LV RL 87 MX6_reading 3 := ⟨lbX6_reading, List.mem_of_getElem? (i := 548) rfl, List.mem_of_getElem? (i := 549) rfl, List.mem_of_getElem? (i := 550) rfl⟩
set_option maxRecDepth 100000 in
theorem lX6_181 : sm_LV RX6 181 MX1_add 3 := ⟨lbX1_add, List.mem_of_getElem? (i := 552) rfl, List.mem_of_getElem? (i := 553) rfl, List.mem_of_getElem? (i := 554) rfl⟩
set_option maxRecDepth 100000 in
theorem lL_92 : sm_LV RL 92 MX6_back 1 := ⟨lbX6_back, List.mem_of_getElem? (i := 556) rfl, List.mem_of_getElem? (i := 557) rfl, List.mem_of_getElem? (i := 558) rfl⟩
set_option maxRecDepth 100000 in
theorem lL_96 : sm_LV RL 96 MX6_rules 0 := ⟨lbX6_rules, List.mem_of_getElem? (i := 560) rfl, List.mem_of_getElem? (i := 561) rfl, List.mem_of_getElem? (i := 562) rfl⟩
set_option maxRecDepth 100000 in
theorem lX6_184 : sm_LV RX6 184 MX5_rulesThatFit 0 := ⟨lbX5_rulesThatFit, List.mem_of_getElem? (i := 564) rfl, List.mem_of_getElem? (i := 565) rfl, List.mem_of_getElem? (i := 566) rfl⟩
set_option maxRecDepth 100000 in
theorem lX5_89 : sm_LV RX5 89 MX5_bitIfFit 1 := ⟨lbX5_bitIfFit, List.mem_of_getElem? (i := 568) rfl, List.mem_of_getElem? (i := 570) rfl, List.mem_of_getElem? (i := 13) rfl⟩
set_option maxRecDepth 100000 in
theorem lX5_100 : sm_LV RX5 100 MX1_areSo 1 := ⟨lbX1_areSo, List.mem_of_getElem? (i := 572) rfl, List.mem_of_getElem? (i := 573) rfl, List.mem_of_getElem? (i := 574) rfl⟩
set_option maxRecDepth 100000 in
theorem lX1_25 : sm_LV RX1 25 MX0_isAt 3 := ⟨lbX0_isAt, List.mem_of_getElem? (i := 576) rfl, List.mem_of_getElem? (i := 461) rfl, List.mem_of_getElem? (i := 462) rfl⟩
set_option maxRecDepth 100000 in
theorem lL_101 : sm_LV RL 101 MX6_kinds 1 := ⟨lbX6_kinds, List.mem_of_getElem? (i := 577) rfl, List.mem_of_getElem? (i := 578) rfl, List.mem_of_getElem? (i := 579) rfl⟩
set_option maxRecDepth 100000 in
theorem lX6_187 : sm_LV RX6 187 MX5_kindsThatFit 1 := ⟨lbX5_kindsThatFit, List.mem_of_getElem? (i := 581) rfl, List.mem_of_getElem? (i := 582) rfl, List.mem_of_getElem? (i := 583) rfl⟩
set_option maxRecDepth 100000 in
theorem lL_105 : sm_LV RL 105 MX6_depths 1 := ⟨lbX6_depths, List.mem_of_getElem? (i := 585) rfl, List.mem_of_getElem? (i := 586) rfl, List.mem_of_getElem? (i := 587) rfl⟩
set_option maxRecDepth 100000 in
theorem lX6_190 : sm_LV RX6 190 MX5_depthsThatFit 1 := ⟨lbX5_depthsThatFit, List.mem_of_getElem? (i := 589) rfl, List.mem_of_getElem? (i := 590) rfl, List.mem_of_getElem? (i := 591) rfl⟩
set_option maxRecDepth 100000 in
theorem lL_109 : sm_LV RL 109 MX6_falls 1 := ⟨lbX6_falls, List.mem_of_getElem? (i := 593) rfl, List.mem_of_getElem? (i := 594) rfl, List.mem_of_getElem? (i := 595) rfl⟩
set_option maxRecDepth 100000 in
theorem lX6_193 : sm_LV RX6 193 MX5_fallsThatFit 1 := ⟨lbX5_fallsThatFit, List.mem_of_getElem? (i := 597) rfl, List.mem_of_getElem? (i := 598) rfl, List.mem_of_getElem? (i := 599) rfl⟩
set_option maxRecDepth 100000 in
theorem lL_113 : sm_LV RL 113 MX6_odds 3 := ⟨lbX6_odds, List.mem_of_getElem? (i := 601) rfl, List.mem_of_getElem? (i := 602) rfl, List.mem_of_getElem? (i := 603) rfl⟩
set_option maxRecDepth 100000 in
theorem lX6_198 : sm_LV RX6 198 MX5_windsThatMeet 2 := ⟨lbX5_windsThatMeet, List.mem_of_getElem? (i := 606) rfl, List.mem_of_getElem? (i := 607) rfl, List.mem_of_getElem? (i := 608) rfl⟩
set_option maxRecDepth 100000 in
theorem lX5_106 : sm_LV RX5 106 MX0_begin 0 := ⟨lbX0_begin, List.mem_of_getElem? (i := 610) rfl, List.mem_of_getElem? (i := 423) rfl, List.mem_of_getElem? (i := 424) rfl⟩
set_option maxRecDepth 100000 in
theorem lX5_109 : sm_LS RX5 109 MX5_meetingWinds 4 := ⟨lbX5_meetingWinds, List.mem_of_getElem? (i := 611) rfl, List.mem_of_getElem? (i := 612) rfl⟩
set_option maxRecDepth 100000 in
theorem lX5_113 : sm_LV RX5 113 MX0_pass 2 := ⟨lbX0_pass, List.mem_of_getElem? (i := 614) rfl, List.mem_of_getElem? (i := 427) rfl, List.mem_of_getElem? (i := 428) rfl⟩
set_option maxRecDepth 100000 in
theorem lX5_117 : sm_LV RX5 117 MX0_isMeeting 2 := ⟨lbX0_isMeeting, List.mem_of_getElem? (i := 615) rfl, List.mem_of_getElem? (i := 498) rfl, List.mem_of_getElem? (i := 499) rfl⟩
set_option maxRecDepth 100000 in
theorem lL_118 : sm_LV RL 118 MX6_sheet 3 := ⟨lbX6_sheet, List.mem_of_getElem? (i := 616) rfl, List.mem_of_getElem? (i := 617) rfl, List.mem_of_getElem? (i := 618) rfl⟩
set_option maxRecDepth 100000 in
theorem lX6_201 : sm_LV RX6 201 MX3_renew 2 := ⟨lbX3_renew, List.mem_of_getElem? (i := 620) rfl, List.mem_of_getElem? (i := 621) rfl, List.mem_of_getElem? (i := 622) rfl⟩
set_option maxRecDepth 100000 in
theorem lL_122 : sm_LV RL 122 MX6_lose 1 := ⟨lbX6_lose, List.mem_of_getElem? (i := 624) rfl, List.mem_of_getElem? (i := 625) rfl, List.mem_of_getElem? (i := 626) rfl⟩
set_option maxRecDepth 100000 in
theorem lX6_205 : sm_LV RX6 205 MX3_isThere 0 := ⟨lbX3_isThere, List.mem_of_getElem? (i := 628) rfl, List.mem_of_getElem? (i := 274) rfl, List.mem_of_getElem? (i := 275) rfl⟩
set_option maxRecDepth 100000 in
theorem lX6_208 : sm_LV RX6 208 MX3_clear 0 := ⟨lbX3_clear, List.mem_of_getElem? (i := 629) rfl, List.mem_of_getElem? (i := 630) rfl, List.mem_of_getElem? (i := 631) rfl⟩
set_option maxRecDepth 100000 in
theorem lL_126 : sm_LV RL 126 MX6_put 3 := ⟨lbX6_put, List.mem_of_getElem? (i := 633) rfl, List.mem_of_getElem? (i := 634) rfl, List.mem_of_getElem? (i := 635) rfl⟩
set_option maxRecDepth 100000 in
theorem lX6_209 : sm_LV RX6 209 MX3_hasCell 1 := ⟨lbX3_hasCell, List.mem_of_getElem? (i := 637) rfl, List.mem_of_getElem? (i := 638) rfl, List.mem_of_getElem? (i := 639) rfl⟩
set_option maxRecDepth 100000 in
theorem lX6_212 : sm_LV RX6 212 MX3_write 2 := ⟨lbX3_write, List.mem_of_getElem? (i := 641) rfl, List.mem_of_getElem? (i := 642) rfl, List.mem_of_getElem? (i := 643) rfl⟩
set_option maxRecDepth 100000 in
theorem lL_130 : sm_LV RL 130 MX6_cell 3 := ⟨lbX6_cell, List.mem_of_getElem? (i := 645) rfl, List.mem_of_getElem? (i := 646) rfl, List.mem_of_getElem? (i := 647) rfl⟩
set_option maxRecDepth 100000 in
theorem lX6_215 : sm_LV RX6 215 MX3_faultOfCell 2 := ⟨lbX3_faultOfCell, List.mem_of_getElem? (i := 649) rfl, List.mem_of_getElem? (i := 650) rfl, List.mem_of_getElem? (i := 651) rfl⟩
set_option maxRecDepth 100000 in
theorem lX3_26 : sm_LV RX3 26 MX3_hasCell 1 := ⟨lbX3_hasCell, List.mem_of_getElem? (i := 653) rfl, List.mem_of_getElem? (i := 638) rfl, List.mem_of_getElem? (i := 639) rfl⟩
set_option maxRecDepth 100000 in
theorem lL_134 : sm_LV RL 134 MX6_copy 5 := ⟨lbX6_copy, List.mem_of_getElem? (i := 654) rfl, List.mem_of_getElem? (i := 655) rfl, List.mem_of_getElem? (i := 656) rfl⟩
set_option maxRecDepth 100000 in
theorem lX6_224 : sm_LV RX6 224 MX3_hasCells 2 := ⟨lbX3_hasCells, List.mem_of_getElem? (i := 658) rfl, List.mem_of_getElem? (i := 278) rfl, List.mem_of_getElem? (i := 279) rfl⟩
set_option maxRecDepth 100000 in
theorem lL_138 : sm_LV RL 138 MX6_tell 1 := ⟨lbX6_tell, List.mem_of_getElem? (i := 660) rfl, List.mem_of_getElem? (i := 661) rfl, List.mem_of_getElem? (i := 662) rfl⟩
set_option maxRecDepth 100000 in
theorem lX6_234 : sm_LV RX6 234 MX6_castleTelling 1 := ⟨lbX6_castleTelling, List.mem_of_getElem? (i := 664) rfl, List.mem_of_getElem? (i := 666) rfl, List.mem_of_getElem? (i := 14) rfl⟩
set_option maxRecDepth 100000 in
theorem lX6_252 : sm_LV RX6 252 MX6_beginBody 1 := ⟨lbX6_beginBody, List.mem_of_getElem? (i := 668) rfl, List.mem_of_getElem? (i := 670) rfl, List.mem_of_getElem? (i := 15) rfl⟩
set_option maxRecDepth 100000 in
theorem lX6_237 : sm_LV RX6 237 MX6_lodgeTelling 1 := ⟨lbX6_lodgeTelling, List.mem_of_getElem? (i := 672) rfl, List.mem_of_getElem? (i := 674) rfl, List.mem_of_getElem? (i := 16) rfl⟩
set_option maxRecDepth 100000 in
theorem lX6_240 : sm_LV RX6 240 MX6_innTelling 1 := ⟨lbX6_innTelling, List.mem_of_getElem? (i := 676) rfl, List.mem_of_getElem? (i := 678) rfl, List.mem_of_getElem? (i := 17) rfl⟩
set_option maxRecDepth 100000 in
theorem lL_142 : sm_LV RL 142 MX6_light 1 := ⟨lbX6_light, List.mem_of_getElem? (i := 680) rfl, List.mem_of_getElem? (i := 681) rfl, List.mem_of_getElem? (i := 682) rfl⟩
set_option maxRecDepth 100000 in
theorem lX6_243 : sm_LV RX6 243 MX6_castleLight 0 := ⟨lbX6_castleLight, List.mem_of_getElem? (i := 684) rfl, List.mem_of_getElem? (i := 686) rfl, List.mem_of_getElem? (i := 18) rfl⟩
set_option maxRecDepth 100000 in
theorem lX6_246 : sm_LV RX6 246 MX6_lentLight 1 := ⟨lbX6_lentLight, List.mem_of_getElem? (i := 688) rfl, List.mem_of_getElem? (i := 690) rfl, List.mem_of_getElem? (i := 19) rfl⟩
set_option maxRecDepth 100000 in
theorem lL_146 : sm_LV RL 146 MX6_as 2 := ⟨lbX6_as, List.mem_of_getElem? (i := 692) rfl, List.mem_of_getElem? (i := 693) rfl, List.mem_of_getElem? (i := 694) rfl⟩
set_option maxRecDepth 100000 in
theorem lL_150 : sm_LV RL 150 MX6_trace 0 := ⟨lbX6_trace, List.mem_of_getElem? (i := 696) rfl, List.mem_of_getElem? (i := 697) rfl, List.mem_of_getElem? (i := 698) rfl⟩
set_option maxRecDepth 100000 in
theorem lL_154 : sm_LV RL 154 MX6_fault 0 := ⟨lbX6_fault, List.mem_of_getElem? (i := 700) rfl, List.mem_of_getElem? (i := 701) rfl, List.mem_of_getElem? (i := 702) rfl⟩
set_option maxRecDepth 100000 in
theorem lL_158 : sm_LV RL 158 MX6_many 1 := ⟨lbX6_many, List.mem_of_getElem? (i := 704) rfl, List.mem_of_getElem? (i := 705) rfl, List.mem_of_getElem? (i := 706) rfl⟩
set_option maxRecDepth 100000 in
theorem lL_12 : sm_LI RL 12 MX7_init 0 := ⟨lbX7_init, List.mem_of_getElem? (i := 710) rfl, List.mem_of_getElem? (i := 711) rfl, rfl, rfl⟩
set_option maxRecDepth 100000 in
theorem lL_17 : sm_LV RL 17 MX7_ridge 4 := ⟨lbX7_ridge, List.mem_of_getElem? (i := 817) rfl, List.mem_of_getElem? (i := 818) rfl, List.mem_of_getElem? (i := 819) rfl⟩
set_option maxRecDepth 100000 in
theorem lX7_137 : sm_LS RX7 137 MX7_noSheet 1 := ⟨lbX7_noSheet, List.mem_of_getElem? (i := 821) rfl, List.mem_of_getElem? (i := 822) rfl⟩
set_option maxRecDepth 100000 in
theorem lX7_89 : sm_LS RX7 89 MX7_in 3 := ⟨lbX7_in, List.mem_of_getElem? (i := 825) rfl, List.mem_of_getElem? (i := 826) rfl⟩
set_option maxRecDepth 100000 in
theorem lX7_141 : sm_LV RX7 141 MX7_refused 1 := ⟨lbX7_refused, List.mem_of_getElem? (i := 828) rfl, List.mem_of_getElem? (i := 830) rfl, List.mem_of_getElem? (i := 20) rfl⟩
set_option maxRecDepth 100000 in
theorem lX7_146 : sm_LV RX7 146 MX7_cellsBarred 4 := ⟨lbX7_cellsBarred, List.mem_of_getElem? (i := 833) rfl, List.mem_of_getElem? (i := 835) rfl, List.mem_of_getElem? (i := 21) rfl⟩
set_option maxRecDepth 100000 in
theorem lX7_129 : sm_LV RX7 129 MX7_failed 1 := ⟨lbX7_failed, List.mem_of_getElem? (i := 837) rfl, List.mem_of_getElem? (i := 839) rfl, List.mem_of_getElem? (i := 22) rfl⟩
set_option maxRecDepth 100000 in
theorem lX7_133 : sm_LS RX7 133 MX7_isBeyond 3 := ⟨lbX7_isBeyond, List.mem_of_getElem? (i := 841) rfl, List.mem_of_getElem? (i := 842) rfl⟩
set_option maxRecDepth 100000 in
theorem lX7_150 : sm_LV RX7 150 MX7_readsRidge 2 := ⟨lbX7_readsRidge, List.mem_of_getElem? (i := 844) rfl, List.mem_of_getElem? (i := 846) rfl, List.mem_of_getElem? (i := 23) rfl⟩
set_option maxRecDepth 100000 in
theorem lX7_102 : sm_LV RX7 102 MX7_codeAt 2 := ⟨lbX7_codeAt, List.mem_of_getElem? (i := 848) rfl, List.mem_of_getElem? (i := 850) rfl, List.mem_of_getElem? (i := 24) rfl⟩
set_option maxRecDepth 100000 in
theorem lX7_119 : sm_LV RX7 119 MX7_readsInn 2 := ⟨lbX7_readsInn, List.mem_of_getElem? (i := 852) rfl, List.mem_of_getElem? (i := 854) rfl, List.mem_of_getElem? (i := 25) rfl⟩
set_option maxRecDepth 100000 in
theorem lX7_109 : sm_LV RX7 109 MX7_figure 4 := ⟨lbX7_figure, List.mem_of_getElem? (i := 856) rfl, List.mem_of_getElem? (i := 858) rfl, List.mem_of_getElem? (i := 26) rfl⟩
set_option maxRecDepth 100000 in
theorem lX7_123 : sm_LV RX7 123 MX7_readsNight 2 := ⟨lbX7_readsNight, List.mem_of_getElem? (i := 860) rfl, List.mem_of_getElem? (i := 862) rfl, List.mem_of_getElem? (i := 27) rfl⟩
set_option maxRecDepth 100000 in
theorem lX7_126 : sm_LV RX7 126 MX7_readsGuest 2 := ⟨lbX7_readsGuest, List.mem_of_getElem? (i := 864) rfl, List.mem_of_getElem? (i := 866) rfl, List.mem_of_getElem? (i := 28) rfl⟩
set_option maxRecDepth 100000 in
theorem lL_22 : sm_LV RL 22 MX7_ofInn 2 := ⟨lbX7_ofInn, List.mem_of_getElem? (i := 868) rfl, List.mem_of_getElem? (i := 869) rfl, List.mem_of_getElem? (i := 870) rfl⟩
set_option maxRecDepth 100000 in
theorem lX7_159 : sm_LV RX7 159 MX7_noInn 1 := ⟨lbX7_noInn, List.mem_of_getElem? (i := 872) rfl, List.mem_of_getElem? (i := 874) rfl, List.mem_of_getElem? (i := 29) rfl⟩
set_option maxRecDepth 100000 in
theorem lX7_162 : sm_LV RX7 162 MX7_keepsBy 2 := ⟨lbX7_keepsBy, List.mem_of_getElem? (i := 876) rfl, List.mem_of_getElem? (i := 878) rfl, List.mem_of_getElem? (i := 30) rfl⟩
set_option maxRecDepth 100000 in
theorem lL_26 : sm_LV RL 26 MX7_ofGuest 2 := ⟨lbX7_ofGuest, List.mem_of_getElem? (i := 880) rfl, List.mem_of_getElem? (i := 881) rfl, List.mem_of_getElem? (i := 882) rfl⟩
set_option maxRecDepth 100000 in
theorem lX7_165 : sm_LV RX7 165 MX7_noGuest 1 := ⟨lbX7_noGuest, List.mem_of_getElem? (i := 884) rfl, List.mem_of_getElem? (i := 886) rfl, List.mem_of_getElem? (i := 31) rfl⟩
set_option maxRecDepth 100000 in
theorem lL_30 : sm_LV RL 30 MX7_ofNight 2 := ⟨lbX7_ofNight, List.mem_of_getElem? (i := 888) rfl, List.mem_of_getElem? (i := 889) rfl, List.mem_of_getElem? (i := 890) rfl⟩
set_option maxRecDepth 100000 in
theorem lX7_168 : sm_LV RX7 168 MX7_noNight 1 := ⟨lbX7_noNight, List.mem_of_getElem? (i := 892) rfl, List.mem_of_getElem? (i := 894) rfl, List.mem_of_getElem? (i := 32) rfl⟩
set_option maxRecDepth 100000 in
theorem lL_35 : sm_LV RL 35 MX7_rule 1 := ⟨lbX7_rule, List.mem_of_getElem? (i := 896) rfl, List.mem_of_getElem? (i := 897) rfl, List.mem_of_getElem? (i := 898) rfl⟩
set_option maxRecDepth 100000 in
theorem lL_39 : sm_LV RL 39 MX7_fall 2 := ⟨lbX7_fall, List.mem_of_getElem? (i := 900) rfl, List.mem_of_getElem? (i := 901) rfl, List.mem_of_getElem? (i := 902) rfl⟩
set_option maxRecDepth 100000 in
theorem lL_44 : sm_LV RL 44 MX7_gust 2 := ⟨lbX7_gust, List.mem_of_getElem? (i := 905) rfl, List.mem_of_getElem? (i := 906) rfl, List.mem_of_getElem? (i := 907) rfl⟩
set_option maxRecDepth 100000 in
theorem lL_48 : sm_LV RL 48 MX7_lodge 2 := ⟨lbX7_lodge, List.mem_of_getElem? (i := 909) rfl, List.mem_of_getElem? (i := 910) rfl, List.mem_of_getElem? (i := 911) rfl⟩
set_option maxRecDepth 100000 in
theorem lL_53 : sm_LV RL 53 MX7_sweep 3 := ⟨lbX7_sweep, List.mem_of_getElem? (i := 913) rfl, List.mem_of_getElem? (i := 914) rfl, List.mem_of_getElem? (i := 915) rfl⟩
set_option maxRecDepth 100000 in
theorem lX7_175 : sm_LV RX7 175 MX7_swept 3 := ⟨lbX7_swept, List.mem_of_getElem? (i := 918) rfl, List.mem_of_getElem? (i := 920) rfl, List.mem_of_getElem? (i := 33) rfl⟩
set_option maxRecDepth 100000 in
theorem lL_57 : sm_LV RL 57 MX7_where 2 := ⟨lbX7_where, List.mem_of_getElem? (i := 922) rfl, List.mem_of_getElem? (i := 923) rfl, List.mem_of_getElem? (i := 924) rfl⟩
set_option maxRecDepth 100000 in
theorem lX7_193 : sm_LV RX7 193 MX7_goNights 1 := ⟨lbX7_goNights, List.mem_of_getElem? (i := 926) rfl, List.mem_of_getElem? (i := 928) rfl, List.mem_of_getElem? (i := 34) rfl⟩
set_option maxRecDepth 100000 in
theorem lX7_186 : sm_LV RX7 186 MX7_begin 0 := ⟨lbX7_begin, List.mem_of_getElem? (i := 930) rfl, List.mem_of_getElem? (i := 932) rfl, List.mem_of_getElem? (i := 35) rfl⟩
set_option maxRecDepth 100000 in
theorem lX7_189 : sm_LV RX7 189 MX7_goNight 1 := ⟨lbX7_goNight, List.mem_of_getElem? (i := 934) rfl, List.mem_of_getElem? (i := 936) rfl, List.mem_of_getElem? (i := 36) rfl⟩
set_option maxRecDepth 100000 in
theorem lX7_182 : sm_LV RX7 182 MX7_passOn 2 := ⟨lbX7_passOn, List.mem_of_getElem? (i := 938) rfl, List.mem_of_getElem? (i := 940) rfl, List.mem_of_getElem? (i := 37) rfl⟩
set_option maxRecDepth 100000 in
theorem lL_61 : sm_LV RL 61 MX7_deep 2 := ⟨lbX7_deep, List.mem_of_getElem? (i := 942) rfl, List.mem_of_getElem? (i := 943) rfl, List.mem_of_getElem? (i := 944) rfl⟩
set_option maxRecDepth 100000 in
theorem lL_65 : sm_LV RL 65 MX7_beds 2 := ⟨lbX7_beds, List.mem_of_getElem? (i := 946) rfl, List.mem_of_getElem? (i := 947) rfl, List.mem_of_getElem? (i := 948) rfl⟩
set_option maxRecDepth 100000 in
theorem lX7_196 : sm_LV RX7 196 MX7_inBeds 1 := ⟨lbX7_inBeds, List.mem_of_getElem? (i := 950) rfl, List.mem_of_getElem? (i := 952) rfl, List.mem_of_getElem? (i := 38) rfl⟩
set_option maxRecDepth 100000 in
theorem lL_70 : sm_LV RL 70 MX7_list 5 := ⟨lbX7_list, List.mem_of_getElem? (i := 954) rfl, List.mem_of_getElem? (i := 955) rfl, List.mem_of_getElem? (i := 956) rfl⟩
set_option maxRecDepth 100000 in
theorem lL_74 : sm_LV RL 74 MX7_meet 1 := ⟨lbX7_meet, List.mem_of_getElem? (i := 958) rfl, List.mem_of_getElem? (i := 959) rfl, List.mem_of_getElem? (i := 960) rfl⟩
set_option maxRecDepth 100000 in
theorem lX7_202 : sm_LV RX7 202 MX7_noFamily 1 := ⟨lbX7_noFamily, List.mem_of_getElem? (i := 962) rfl, List.mem_of_getElem? (i := 964) rfl, List.mem_of_getElem? (i := 39) rfl⟩
set_option maxRecDepth 100000 in
theorem lX7_205 : sm_LV RX7 205 MX7_meetsIn 2 := ⟨lbX7_meetsIn, List.mem_of_getElem? (i := 966) rfl, List.mem_of_getElem? (i := 968) rfl, List.mem_of_getElem? (i := 40) rfl⟩
set_option maxRecDepth 100000 in
theorem lX7_199 : sm_LV RX7 199 MX7_isTogether 1 := ⟨lbX7_isTogether, List.mem_of_getElem? (i := 970) rfl, List.mem_of_getElem? (i := 972) rfl, List.mem_of_getElem? (i := 41) rfl⟩
set_option maxRecDepth 100000 in
theorem lL_78 : sm_LV RL 78 MX7_least 2 := ⟨lbX7_least, List.mem_of_getElem? (i := 974) rfl, List.mem_of_getElem? (i := 975) rfl, List.mem_of_getElem? (i := 976) rfl⟩
set_option maxRecDepth 100000 in
theorem lX7_208 : sm_LV RX7 208 MX7_isNobodyOut 1 := ⟨lbX7_isNobodyOut, List.mem_of_getElem? (i := 978) rfl, List.mem_of_getElem? (i := 980) rfl, List.mem_of_getElem? (i := 42) rfl⟩
set_option maxRecDepth 100000 in
theorem lX7_211 : sm_LV RX7 211 MX7_isBy 4 := ⟨lbX7_isBy, List.mem_of_getElem? (i := 982) rfl, List.mem_of_getElem? (i := 984) rfl, List.mem_of_getElem? (i := 43) rfl⟩
set_option maxRecDepth 100000 in
theorem lL_82 : sm_LV RL 82 MX7_turn 2 := ⟨lbX7_turn, List.mem_of_getElem? (i := 986) rfl, List.mem_of_getElem? (i := 987) rfl, List.mem_of_getElem? (i := 988) rfl⟩
set_option maxRecDepth 100000 in
theorem lL_86 : sm_LV RL 86 MX7_corks 1 := ⟨lbX7_corks, List.mem_of_getElem? (i := 990) rfl, List.mem_of_getElem? (i := 991) rfl, List.mem_of_getElem? (i := 992) rfl⟩
set_option maxRecDepth 100000 in
theorem lX7_215 : sm_LS RX7 215 MX7_bits 1 := ⟨lbX7_bits, List.mem_of_getElem? (i := 994) rfl, List.mem_of_getElem? (i := 995) rfl⟩
set_option maxRecDepth 100000 in
theorem lL_91 : sm_LV RL 91 MX7_reading 3 := ⟨lbX7_reading, List.mem_of_getElem? (i := 997) rfl, List.mem_of_getElem? (i := 998) rfl, List.mem_of_getElem? (i := 999) rfl⟩
set_option maxRecDepth 100000 in
theorem lL_95 : sm_LV RL 95 MX7_back 1 := ⟨lbX7_back, List.mem_of_getElem? (i := 1001) rfl, List.mem_of_getElem? (i := 1002) rfl, List.mem_of_getElem? (i := 1003) rfl⟩
set_option maxRecDepth 100000 in
theorem lL_100 : sm_LV RL 100 MX7_rules 0 := ⟨lbX7_rules, List.mem_of_getElem? (i := 1005) rfl, List.mem_of_getElem? (i := 1006) rfl, List.mem_of_getElem? (i := 1007) rfl⟩
set_option maxRecDepth 100000 in
theorem lX7_218 : sm_LV RX7 218 MX7_areSo 0 := ⟨lbX7_areSo, List.mem_of_getElem? (i := 1009) rfl, List.mem_of_getElem? (i := 1011) rfl, List.mem_of_getElem? (i := 44) rfl⟩
set_option maxRecDepth 100000 in
theorem lL_104 : sm_LV RL 104 MX7_kinds 1 := ⟨lbX7_kinds, List.mem_of_getElem? (i := 1013) rfl, List.mem_of_getElem? (i := 1014) rfl, List.mem_of_getElem? (i := 1015) rfl⟩
set_option maxRecDepth 100000 in
theorem lL_108 : sm_LV RL 108 MX7_depths 1 := ⟨lbX7_depths, List.mem_of_getElem? (i := 1017) rfl, List.mem_of_getElem? (i := 1018) rfl, List.mem_of_getElem? (i := 1019) rfl⟩
set_option maxRecDepth 100000 in
theorem lL_112 : sm_LV RL 112 MX7_falls 1 := ⟨lbX7_falls, List.mem_of_getElem? (i := 1021) rfl, List.mem_of_getElem? (i := 1022) rfl, List.mem_of_getElem? (i := 1023) rfl⟩
set_option maxRecDepth 100000 in
theorem lL_117 : sm_LV RL 117 MX7_odds 3 := ⟨lbX7_odds, List.mem_of_getElem? (i := 1025) rfl, List.mem_of_getElem? (i := 1026) rfl, List.mem_of_getElem? (i := 1027) rfl⟩
set_option maxRecDepth 100000 in
theorem lX7_82 : sm_LS RX7 82 MX7_lost 0 := ⟨lbX7_lost, List.mem_of_getElem? (i := 1029) rfl, List.mem_of_getElem? (i := 1030) rfl⟩
set_option maxRecDepth 100000 in
theorem lX7_222 : sm_LV RX7 222 MX7_blow 2 := ⟨lbX7_blow, List.mem_of_getElem? (i := 1033) rfl, List.mem_of_getElem? (i := 1035) rfl, List.mem_of_getElem? (i := 45) rfl⟩
set_option maxRecDepth 100000 in
theorem lX7_225 : sm_LS RX7 225 MX7_share 3 := ⟨lbX7_share, List.mem_of_getElem? (i := 1037) rfl, List.mem_of_getElem? (i := 1038) rfl⟩
set_option maxRecDepth 100000 in
theorem lL_121 : sm_LV RL 121 MX7_sheet 3 := ⟨lbX7_sheet, List.mem_of_getElem? (i := 1040) rfl, List.mem_of_getElem? (i := 1041) rfl, List.mem_of_getElem? (i := 1042) rfl⟩
set_option maxRecDepth 100000 in
theorem lL_125 : sm_LV RL 125 MX7_lose 1 := ⟨lbX7_lose, List.mem_of_getElem? (i := 1044) rfl, List.mem_of_getElem? (i := 1045) rfl, List.mem_of_getElem? (i := 1046) rfl⟩
set_option maxRecDepth 100000 in
theorem lL_129 : sm_LV RL 129 MX7_put 3 := ⟨lbX7_put, List.mem_of_getElem? (i := 1048) rfl, List.mem_of_getElem? (i := 1049) rfl, List.mem_of_getElem? (i := 1050) rfl⟩
set_option maxRecDepth 100000 in
theorem lX7_231 : sm_LV RX7 231 MX7_noCell 2 := ⟨lbX7_noCell, List.mem_of_getElem? (i := 1052) rfl, List.mem_of_getElem? (i := 1054) rfl, List.mem_of_getElem? (i := 46) rfl⟩
set_option maxRecDepth 100000 in
theorem lL_133 : sm_LV RL 133 MX7_cell 3 := ⟨lbX7_cell, List.mem_of_getElem? (i := 1056) rfl, List.mem_of_getElem? (i := 1057) rfl, List.mem_of_getElem? (i := 1058) rfl⟩
set_option maxRecDepth 100000 in
theorem lX7_234 : sm_LV RX7 234 MX7_failedLong 1 := ⟨lbX7_failedLong, List.mem_of_getElem? (i := 1060) rfl, List.mem_of_getElem? (i := 1062) rfl, List.mem_of_getElem? (i := 47) rfl⟩
set_option maxRecDepth 100000 in
theorem lL_137 : sm_LV RL 137 MX7_copy 5 := ⟨lbX7_copy, List.mem_of_getElem? (i := 1064) rfl, List.mem_of_getElem? (i := 1065) rfl, List.mem_of_getElem? (i := 1066) rfl⟩
set_option maxRecDepth 100000 in
theorem lL_141 : sm_LV RL 141 MX7_tell 1 := ⟨lbX7_tell, List.mem_of_getElem? (i := 1068) rfl, List.mem_of_getElem? (i := 1069) rfl, List.mem_of_getElem? (i := 1070) rfl⟩
set_option maxRecDepth 100000 in
theorem lX7_241 : sm_LV RX7 241 MX7_traced 1 := ⟨lbX7_traced, List.mem_of_getElem? (i := 1072) rfl, List.mem_of_getElem? (i := 1074) rfl, List.mem_of_getElem? (i := 48) rfl⟩
set_option maxRecDepth 100000 in
theorem lL_145 : sm_LV RL 145 MX7_light 1 := ⟨lbX7_light, List.mem_of_getElem? (i := 1076) rfl, List.mem_of_getElem? (i := 1077) rfl, List.mem_of_getElem? (i := 1078) rfl⟩
set_option maxRecDepth 100000 in
theorem lL_149 : sm_LV RL 149 MX7_as 2 := ⟨lbX7_as, List.mem_of_getElem? (i := 1080) rfl, List.mem_of_getElem? (i := 1081) rfl, List.mem_of_getElem? (i := 1082) rfl⟩
set_option maxRecDepth 100000 in
theorem lL_153 : sm_LV RL 153 MX7_trace 0 := ⟨lbX7_trace, List.mem_of_getElem? (i := 1084) rfl, List.mem_of_getElem? (i := 1085) rfl, List.mem_of_getElem? (i := 1086) rfl⟩
set_option maxRecDepth 100000 in
theorem lL_157 : sm_LV RL 157 MX7_fault 0 := ⟨lbX7_fault, List.mem_of_getElem? (i := 1088) rfl, List.mem_of_getElem? (i := 1089) rfl, List.mem_of_getElem? (i := 1090) rfl⟩
set_option maxRecDepth 100000 in
theorem lL_161 : sm_LV RL 161 MX7_many 1 := ⟨lbX7_many, List.mem_of_getElem? (i := 1092) rfl, List.mem_of_getElem? (i := 1093) rfl, List.mem_of_getElem? (i := 1094) rfl⟩
set_option maxRecDepth 100000 in
theorem nL_7 : sm_LC RL 7 6 := ⟨rfl, List.mem_of_getElem? (i := 61) rfl, List.mem_of_getElem? (i := 62) rfl, List.mem_of_getElem? (i := 50) rfl⟩
set_option maxRecDepth 100000 in
theorem oX6_3 : Cond.methodLink RX6 3 objectInit ∈ lw_tbl := List.mem_of_getElem? (i := 66) rfl
set_option maxRecDepth 100000 in
theorem nX6_11 : Cond.classLink RX6 11 "SnowInns$Sheet" ∈ lw_tbl := List.mem_of_getElem? (i := 69) rfl
set_option maxRecDepth 100000 in
theorem nX6_17 : sm_LC RX6 17 2 := ⟨rfl, List.mem_of_getElem? (i := 71) rfl, List.mem_of_getElem? (i := 72) rfl, List.mem_of_getElem? (i := 51) rfl⟩
set_option maxRecDepth 100000 in
theorem oX2_3 : Cond.methodLink RX2 3 objectInit ∈ lw_tbl := List.mem_of_getElem? (i := 76) rfl
set_option maxRecDepth 100000 in
theorem nX6_27 : sm_LC RX6 27 0 := ⟨rfl, List.mem_of_getElem? (i := 146) rfl, List.mem_of_getElem? (i := 147) rfl, List.mem_of_getElem? (i := 52) rfl⟩
set_option maxRecDepth 100000 in
theorem oX0_3 : Cond.methodLink RX0 3 objectInit ∈ lw_tbl := List.mem_of_getElem? (i := 151) rfl
set_option maxRecDepth 100000 in
theorem nX0_9 : Cond.classLink RX0 9 "[[I" ∈ lw_tbl := List.mem_of_getElem? (i := 152) rfl
set_option maxRecDepth 100000 in
theorem nX6_36 : sm_LC RX6 36 1 := ⟨rfl, List.mem_of_getElem? (i := 169) rfl, List.mem_of_getElem? (i := 170) rfl, List.mem_of_getElem? (i := 53) rfl⟩
set_option maxRecDepth 100000 in
theorem oX1_3 : Cond.methodLink RX1 3 objectInit ∈ lw_tbl := List.mem_of_getElem? (i := 174) rfl
set_option maxRecDepth 100000 in
theorem nX6_43 : sm_LC RX6 43 5 := ⟨rfl, List.mem_of_getElem? (i := 189) rfl, List.mem_of_getElem? (i := 190) rfl, List.mem_of_getElem? (i := 54) rfl⟩
set_option maxRecDepth 100000 in
theorem oX5_3 : Cond.methodLink RX5 3 objectInit ∈ lw_tbl := List.mem_of_getElem? (i := 194) rfl
set_option maxRecDepth 100000 in
theorem nX5_9 : sm_LC RX5 9 2 := ⟨rfl, List.mem_of_getElem? (i := 195) rfl, List.mem_of_getElem? (i := 72) rfl, List.mem_of_getElem? (i := 51) rfl⟩
set_option maxRecDepth 100000 in
theorem nX5_18 : sm_LC RX5 18 0 := ⟨rfl, List.mem_of_getElem? (i := 197) rfl, List.mem_of_getElem? (i := 147) rfl, List.mem_of_getElem? (i := 52) rfl⟩
set_option maxRecDepth 100000 in
theorem oX3_3 : Cond.methodLink RX3 3 objectInit ∈ lw_tbl := List.mem_of_getElem? (i := 216) rfl
set_option maxRecDepth 100000 in
theorem nX6_75 : sm_LC RX6 75 4 := ⟨rfl, List.mem_of_getElem? (i := 285) rfl, List.mem_of_getElem? (i := 286) rfl, List.mem_of_getElem? (i := 57) rfl⟩
set_option maxRecDepth 100000 in
theorem oX4_3 : Cond.methodLink RX4 3 objectInit ∈ lw_tbl := List.mem_of_getElem? (i := 290) rfl
set_option maxRecDepth 100000 in
theorem jX2_46 : Cond.methodLink RX2 46 arraycopyName ∈ lw_tbl := List.mem_of_getElem? (i := 344) rfl
set_option maxRecDepth 100000 in
theorem jX2_60 : Cond.methodLink RX2 60 Lib.Math.min.name ∈ lw_tbl := List.mem_of_getElem? (i := 407) rfl
set_option maxRecDepth 100000 in
theorem jX0_64 : Cond.methodLink RX0 64 Lib.Math.min.name ∈ lw_tbl := List.mem_of_getElem? (i := 434) rfl
set_option maxRecDepth 100000 in
theorem jX0_69 : Cond.methodLink RX0 69 Lib.Math.max.name ∈ lw_tbl := List.mem_of_getElem? (i := 435) rfl
set_option maxRecDepth 100000 in
theorem kJ6_265 : Cond.constant RJ6 265 (1431655765) ∈ lw_tbl := List.mem_of_getElem? (i := 450) rfl
set_option maxRecDepth 100000 in
theorem kJ6_266 : Cond.constant RJ6 266 (858993459) ∈ lw_tbl := List.mem_of_getElem? (i := 451) rfl
set_option maxRecDepth 100000 in
theorem kJ6_267 : Cond.constant RJ6 267 (252645135) ∈ lw_tbl := List.mem_of_getElem? (i := 452) rfl
set_option maxRecDepth 100000 in
theorem kX6_196 : Cond.constantLong RX6 196 (-9223372036854775808) ∈ lw_tbl := List.mem_of_getElem? (i := 605) rfl
set_option maxRecDepth 100000 in
theorem jX6_228 : Cond.methodLink RX6 228 arraycopyName ∈ lw_tbl := List.mem_of_getElem? (i := 659) rfl
set_option maxRecDepth 100000 in
theorem nL_10 : sm_LC RL 10 7 := ⟨rfl, List.mem_of_getElem? (i := 708) rfl, List.mem_of_getElem? (i := 709) rfl, List.mem_of_getElem? (i := 56) rfl⟩
set_option maxRecDepth 100000 in
theorem oX7_1 : Cond.methodLink RX7 1 objectInit ∈ lw_tbl := List.mem_of_getElem? (i := 713) rfl
set_option maxRecDepth 100000 in
theorem kX7_229 : Cond.constantLong RX7 229 (3) ∈ lw_tbl := List.mem_of_getElem? (i := 824) rfl
set_option maxRecDepth 100000 in
theorem kX7_144 : Cond.constantLong RX7 144 (2) ∈ lw_tbl := List.mem_of_getElem? (i := 832) rfl
set_option maxRecDepth 100000 in
theorem kX7_171 : Cond.constantLong RX7 171 (5) ∈ lw_tbl := List.mem_of_getElem? (i := 904) rfl
set_option maxRecDepth 100000 in
theorem kX7_173 : Cond.constantLong RX7 173 (9) ∈ lw_tbl := List.mem_of_getElem? (i := 917) rfl
set_option maxRecDepth 100000 in
theorem kX7_77 : Cond.constantLong RX7 77 (-9223372036854775808) ∈ lw_tbl := List.mem_of_getElem? (i := 1032) rfl
end
section
/-! Rows. -/
section SMR
variable {call : sm_K} {mc ms : Nat} {M : sm_M} {Q : sm_Q} {pc : Nat} {L st : List Value} {h : sm_H} {c s : Nat}
theorem r_s {I : Instr} {len : Nat} {L' st' : List Value} (hd : decode M.2.1 pc = .ok (I, len)) (hs : sm_st I len L st = some (L', st')) (k : sm_wp call mc ms M Q (pc + len) L' st' h c s) : sm_wp call mc ms M Q pc L st h c s := fun P C => C 0 pc I len L st h c s L' st' hd hs (k P C)
theorem r_inc {i : Nat} {n : Int} {x v : Int32} {L' : List Value} (hd : decode M.2.1 pc = .ok (.iinc i n, 3)) (hx : L[i]? = some (.int x)) (hv : x + Int32.ofInt n = v) (hL : sm_s1 L i (.int v) = L') (k : sm_wp call mc ms M Q (pc + 3) L' st h c s) : sm_wp call mc ms M Q pc L st h c s := fun P C => C 0 pc _ 3 L st h c s L' st hd (by show sm_inc L st i n = _; unfold sm_inc; rw [hx]; show some (sm_s1 L i (.int (x + Int32.ofInt n)), st) = _; rw [hv, hL]) (k P C)
theorem r_c {I : Instr} {len : Nat} {v : Value} (hd : decode M.2.1 pc = .ok (I, len)) (hv : sm_cn I len = some v) (k : sm_wp call mc ms M Q (pc + len) L (v :: st) h c s) : sm_wp call mc ms M Q pc L st h c s := fun P C => C 1 pc I len L st h c s v hd hv (k P C)
theorem r_ldc {idx : Nat} {v : Int32} (hd : decode M.2.1 pc = .ok (.ldc_w idx, 3)) (hv : Cond.constant M.1.cls idx v ∈ lw_tbl) (k : sm_wp call mc ms M Q (pc + 3) L (.int v :: st) h c s) : sm_wp call mc ms M Q pc L st h c s := fun P C => C 2 pc idx v L st h c s hd hv (k P C)
theorem r_ldc2 {idx : Nat} {v : Int64} (hd : decode M.2.1 pc = .ok (.ldc2_w idx, 3)) (hv : Cond.constantLong M.1.cls idx v ∈ lw_tbl) (k : sm_wp call mc ms M Q (pc + 3) L (.long v :: st) h c s) : sm_wp call mc ms M Q pc L st h c s := fun P C => C 3 pc idx v L st h c s hd hv (k P C)
theorem r_goto {tgt : Nat} {off : Int} (hd : decode M.2.1 pc = .ok (.goto off, 3)) (ht : (pc : Int) + off = (tgt : Int)) (k : sm_wp call mc ms M Q tgt L st h c s) : sm_wp call mc ms M Q pc L st h c s := fun P C => C 16 pc tgt off L st h c s hd ht (k P C)
theorem r_tout {tgt len : Nat} {dflt lo hi : Int} {offs : Array Int} {x : Int32} (hd : decode M.2.1 pc = .ok (.tableswitch dflt lo hi offs, len)) (h1 : x.toInt < lo ∨ hi < x.toInt) (ht : (pc : Int) + dflt = (tgt : Int)) (k : sm_wp call mc ms M Q tgt L st h c s) : sm_wp call mc ms M Q pc L (.int x :: st) h c s := fun P C => C 17 pc tgt len dflt lo hi offs x L st h c s hd h1 ht (k P C)
theorem r_tin {tgt len : Nat} {dflt lo hi off : Int} {offs : Array Int} {x : Int32} (hd : decode M.2.1 pc = .ok (.tableswitch dflt lo hi offs, len)) (h1 : ¬ x.toInt < lo) (h2 : ¬ hi < x.toInt) (h3 : offs[(x.toInt - lo).toNat]? = some off) (ht : (pc : Int) + off = (tgt : Int)) (k : sm_wp call mc ms M Q tgt L st h c s) : sm_wp call mc ms M Q pc L (.int x :: st) h c s := fun P C => C 18 pc tgt len dflt lo hi off offs x L st h c s hd h1 h2 h3 ht (k P C)
theorem r_look {tgt len : Nat} {dflt off : Int} {ps : Array (Int × Int)} {x : Int32} (hd : decode M.2.1 pc = .ok (.lookupswitch dflt ps, len)) (h1 : (ps.toList.zip (ps.toList.drop 1)).all (fun (a, next) => a.1 < next.1) = true) (h2 : Op.lookupswitch.offset ps.toList dflt x.toInt = off) (ht : (pc : Int) + off = (tgt : Int)) (k : sm_wp call mc ms M Q tgt L st h c s) : sm_wp call mc ms M Q pc L (.int x :: st) h c s := fun P C => C 19 pc tgt len dflt off ps x L st h c s hd h1 h2 ht (k P C)
theorem r_reti {ty : FieldType} {v : Int32} (hd : decode M.2.1 pc = .ok (.ireturn, 1)) (hty : M.2.2.2 = some ty) (hn : narrow ty (.int v) = .int v) (hc : c ≤ mc) (hs : s ≤ ms) (k : Q (some (.int v)) h) : sm_wp call mc ms M Q pc L [.int v] h c s := fun P C => C 20 pc ty v L h c s hd hty hn hc hs k
theorem r_retl {v : Int64} (hd : decode M.2.1 pc = .ok (.lreturn, 1)) (hty : M.2.2.2 = some .long) (hc : c ≤ mc) (hs : s ≤ ms) (k : Q (some (.long v)) h) : sm_wp call mc ms M Q pc L [.long v] h c s := fun P C => C 21 pc v L h c s hd hty hc hs k
theorem r_retv (hd : decode M.2.1 pc = .ok (.return_, 1)) (hty : M.2.2.2 = none) (hc : c ≤ mc) (hs : s ≤ ms) (k : Q none h) : sm_wp call mc ms M Q pc L [] h c s := fun P C => C 22 pc L h c s hd hty hc hs k
theorem r_gi {idx c0 j q : Nat} (hd : decode M.2.1 pc = .ok (.getfield idx, 3)) (hf : sm_FI M.1.cls idx c0 j) (hq : q < h.1) (hk : (h.2.1 q).1 = c0 + 3) (k : sm_wp call mc ms M Q (pc + 3) L (.int (h.2.2.1 q j) :: st) h c s) : sm_wp call mc ms M Q pc L (.ref q :: st) h c s := fun P C => C 23 pc idx c0 j q L st h c s hd hf hq hk (k P C)
theorem r_gr {idx c0 j q r : Nat} (hd : decode M.2.1 pc = .ok (.getfield idx, 3)) (hf : sm_FR M.1.cls idx c0 j) (hq : q < h.1) (hk : (h.2.1 q).1 = c0 + 3) (hr : h.2.2.2 q j = some r) (k : sm_wp call mc ms M Q (pc + 3) L (.ref r :: st) h c s) : sm_wp call mc ms M Q pc L (.ref q :: st) h c s := fun P C => C 24 pc idx c0 j q r L st h c s hd hf hq hk hr (k P C)
theorem r_pi {idx c0 j q : Nat} {x : Int32} (hd : decode M.2.1 pc = .ok (.putfield idx, 3)) (hf : sm_FI M.1.cls idx c0 j) (hfin : ((sm_cl c0).2.1 j).2.2.2 = false) (hq : q < h.1) (hk : (h.2.1 q).1 = c0 + 3) (k : sm_wp call mc ms M Q (pc + 3) L st (sm_si h q j x) c s) : sm_wp call mc ms M Q pc L (.int x :: .ref q :: st) h c s := fun P C => C 25 pc idx c0 j q x L st h c s hd hf hfin hq hk (k P C)
theorem r_pfi {idx c0 j q : Nat} {x : Int32} (hd : decode M.2.1 pc = .ok (.putfield idx, 3)) (hf : sm_FI M.1.cls idx c0 j) (hfin : ((sm_cl c0).2.1 j).2.2.2 = true) (hnm : M.1.name = "<init>") (hcl : ((sm_cl c0).2.1 j).1 = M.1.cls) (hq : q < h.1) (hk : (h.2.1 q).1 = c0 + 3) (k : sm_wp call mc ms M Q (pc + 3) L st (sm_si h q j x) c s) : sm_wp call mc ms M Q pc L (.int x :: .ref q :: st) h c s := fun P C => C 26 pc idx c0 j q x L st h c s hd hf hfin hnm hcl hq hk (k P C)
theorem r_pfr {idx c0 j q r : Nat} (hd : decode M.2.1 pc = .ok (.putfield idx, 3)) (hf : sm_FR M.1.cls idx c0 j) (hff : sm_FF c0 j) (hnm : M.1.name = "<init>") (hcl : ((sm_cl c0).2.1 j).1 = M.1.cls) (hq : q < h.1) (hk : (h.2.1 q).1 = c0 + 3) (k : sm_wp call mc ms M Q (pc + 3) L st (sm_sr h q j (some r)) c s) : sm_wp call mc ms M Q pc L (.ref r :: .ref q :: st) h c s := fun P C => C 27 pc idx c0 j q r L st h c s hd hf hff hnm hcl hq hk (k P C)
theorem r_ald {q n j : Nat} {i : Int32} (hd : decode M.2.1 pc = .ok (.iaload, 1)) (hq : q < h.1) (hk : h.2.1 q = (0, n)) (hin : vp_in i n) (hj : i.toNatClampNeg = j) (k : sm_wp call mc ms M Q (pc + 1) L (.int (h.2.2.1 q j) :: st) h c s) : sm_wp call mc ms M Q pc L (.int i :: .ref q :: st) h c s := fun P C => C 28 pc q n j i L st h c s hd hq hk hin hj (k P C)
theorem r_ast {q n j : Nat} {i x : Int32} (hd : decode M.2.1 pc = .ok (.iastore, 1)) (hq : q < h.1) (hk : h.2.1 q = (0, n)) (hin : vp_in i n) (hj : i.toNatClampNeg = j) (k : sm_wp call mc ms M Q (pc + 1) L st (sm_si h q j x) c s) : sm_wp call mc ms M Q pc L (.int x :: .int i :: .ref q :: st) h c s := fun P C => C 29 pc q n j i x L st h c s hd hq hk hin hj (k P C)
theorem r_gald {q n r : Nat} {i : Int32} (hd : decode M.2.1 pc = .ok (.aaload, 1)) (hq : q < h.1) (hk : h.2.1 q = (1, n)) (hin : vp_in i n) (hr : h.2.2.2 q i.toNatClampNeg = some r) (k : sm_wp call mc ms M Q (pc + 1) L (.ref r :: st) h c s) : sm_wp call mc ms M Q pc L (.int i :: .ref q :: st) h c s := fun P C => C 30 pc q n r i L st h c s hd hq hk hin hr (k P C)
theorem r_sald {q n r : Nat} {i : Int32} (hd : decode M.2.1 pc = .ok (.aaload, 1)) (hq : q < h.1) (hk : h.2.1 q = (2, n)) (hin : vp_in i n) (hr : h.2.2.2 q i.toNatClampNeg = some r) (k : sm_wp call mc ms M Q (pc + 1) L (.ref r :: st) h c s) : sm_wp call mc ms M Q pc L (.int i :: .ref q :: st) h c s := fun P C => C 31 pc q n r i L st h c s hd hq hk hin hr (k P C)
theorem r_sast {q n r : Nat} {i : Int32} (hd : decode M.2.1 pc = .ok (.aastore, 1)) (hq : q < h.1) (hk : h.2.1 q = (2, n)) (hin : vp_in i n) (hr : r < h.1) (hrk : (h.2.1 r).1 = 6) (k : sm_wp call mc ms M Q (pc + 1) L st (sm_sr h q i.toNatClampNeg (some r)) c s) : sm_wp call mc ms M Q pc L (.ref r :: .int i :: .ref q :: st) h c s := fun P C => C 32 pc q n r i L st h c s hd hq hk hin hr hrk (k P C)
theorem r_new {idx c0 : Nat} (hd : decode M.2.1 pc = .ok (.new idx, 3)) (hL : sm_LC M.1.cls idx c0) (hc : c + 1 ≤ mc) (hs : s + (sm_cl c0).2.2 ≤ ms) (k : sm_wp call mc ms M Q (pc + 3) L (.ref h.1 :: st) (sm_nw h 1 (fun _ => (c0 + 3, 0)) (fun _ _ => none)) (c + 1) (s + (sm_cl c0).2.2)) : sm_wp call mc ms M Q pc L st h c s := fun P C => C 33 pc idx c0 L st h c s hd hL hc hs (k P C)
theorem r_newa {N : Nat} {n : Int32} (hd : decode M.2.1 pc = .ok (.newarray .int, 2)) (hn : ¬ n < 0) (hN : n.toNatClampNeg = N) (hN1 : N ≤ 1000) (hc : c + 1 ≤ mc) (hs : s + N ≤ ms) (k : sm_wp call mc ms M Q (pc + 2) L (.ref h.1 :: st) (sm_nw h 1 (fun _ => (0, N)) (fun _ _ => none)) (c + 1) (s + N)) : sm_wp call mc ms M Q pc L (.int n :: st) h c s := fun P C => C 34 pc N n L st h c s hd hn hN hN1 hc hs (k P C)
theorem r_newq {idx N : Nat} {n : Int32} (hd : decode M.2.1 pc = .ok (.anewarray idx, 3)) (hL : Cond.classLink M.1.cls idx "SnowInns$Sheet" ∈ lw_tbl) (hn : ¬ n < 0) (hN : n.toNatClampNeg = N) (hN1 : N ≤ 1000) (hc : c + 1 ≤ mc) (hs : s + N ≤ ms) (k : sm_wp call mc ms M Q (pc + 3) L (.ref h.1 :: st) (sm_nw h 1 (fun _ => (2, N)) (fun _ _ => none)) (c + 1) (s + N)) : sm_wp call mc ms M Q pc L (.int n :: st) h c s := fun P C => C 35 pc idx N n L st h c s hd hL hn hN hN1 hc hs (k P C)
theorem r_mna {idx N K : Nat} {n k0 : Int32} (hd : decode M.2.1 pc = .ok (.multianewarray idx 2, 4)) (hL : Cond.classLink M.1.cls idx "[[I" ∈ lw_tbl) (hn : ¬ n < 0) (hN : n.toNatClampNeg = N) (hN1 : N ≤ 1000) (hk : ¬ k0 < 0) (hK : k0.toNatClampNeg = K) (hK1 : K ≤ 1000) (hc : c + (1 + N) ≤ mc) (hs : s + (N + N * K) ≤ ms) (k : sm_wp call mc ms M Q (pc + 4) L (.ref h.1 :: st) (sm_nw h (1 + N) (fun i => if i = 0 then (1, N) else (0, K)) (fun i j => if i = 0 ∧ j < N then some (h.1 + 1 + j) else none)) (c + 1 + N) (s + N + N * K)) : sm_wp call mc ms M Q pc L (.int k0 :: .int n :: st) h c s := fun P C => C 36 pc idx N K n k0 L st h c s hd hL hn hN hN1 hk hK hK1 hc hs (k P C)
theorem sm_catb (h : Nat.ble (st.map (fun v => v.category)).sum 8 = true) : sm_cat st := Nat.le_of_ble_eq_true h
theorem r_obj {idx q : Nat} (hd : decode M.2.1 pc = .ok (.invokespecial idx, 3)) (hL : Cond.methodLink M.1.cls idx objectInit ∈ lw_tbl) (hcat : Nat.ble (st.map (fun v => v.category)).sum 8 = true) (k : sm_wp call mc ms M Q (pc + 3) L st h c s) : sm_wp call mc ms M Q pc L (.ref q :: st) h c s := fun P C => C 41 pc idx q L st h c s hd hL (sm_catb hcat) (k P C)
theorem r_min {idx : Nat} {x y : Int32} (hd : decode M.2.1 pc = .ok (.invokestatic idx, 3)) (hL : Cond.methodLink M.1.cls idx Lib.Math.min.name ∈ lw_tbl) (hcat : Nat.ble (st.map (fun v => v.category)).sum 8 = true) (hc : c ≤ mc) (hs : s ≤ ms) (k : sm_wp call mc ms M Q (pc + 3) L (.int (if y < x then y else x) :: st) h c s) : sm_wp call mc ms M Q pc L (.int y :: .int x :: st) h c s := fun P C => C 42 pc idx x y L st h c s hd hL (sm_catb hcat) hc hs (k P C)
theorem r_max {idx : Nat} {x y : Int32} (hd : decode M.2.1 pc = .ok (.invokestatic idx, 3)) (hL : Cond.methodLink M.1.cls idx Lib.Math.max.name ∈ lw_tbl) (hcat : Nat.ble (st.map (fun v => v.category)).sum 8 = true) (hc : c ≤ mc) (hs : s ≤ ms) (k : sm_wp call mc ms M Q (pc + 3) L (.int (if x < y then y else x) :: st) h c s) : sm_wp call mc ms M Q pc L (.int y :: .int x :: st) h c s := fun P C => C 43 pc idx x y L st h c s hd hL (sm_catb hcat) hc hs (k P C)
theorem r_cpy {idx q0 q1 n0 n1 : Nat} {sp dp n : Int32} (hd : decode M.2.1 pc = .ok (.invokestatic idx, 3)) (hL : Cond.methodLink M.1.cls idx arraycopyName ∈ lw_tbl) (hq0 : q0 < h.1) (hq1 : q1 < h.1) (hk0 : h.2.1 q0 = (0, n0)) (hk1 : h.2.1 q1 = (0, n1)) (h1 : ¬ sp < 0) (h2 : ¬ dp < 0) (h3 : ¬ n < 0) (h4 : sp.toNatClampNeg + n.toNatClampNeg ≤ n0) (h5 : dp.toNatClampNeg + n.toNatClampNeg ≤ n1) (hcat : Nat.ble (st.map (fun v => v.category)).sum 8 = true) (k : sm_wp call mc ms M Q (pc + 3) L st (sm_sw h q1 (va_cpy (h.2.2.1 q0) (h.2.2.1 q1) sp.toNatClampNeg dp.toNatClampNeg n.toNatClampNeg)) c s) : sm_wp call mc ms M Q pc L (.int n :: .int dp :: .ref q1 :: .int sp :: .ref q0 :: st) h c s := fun P C => C 44 pc idx q0 q1 n0 n1 sp dp n L st h c s hd hL hq0 hq1 hk0 hk1 h1 h2 h3 h4 h5 (sm_catb hcat) (k P C)
theorem r_div {x y : Int32} (hd : decode M.2.1 pc = .ok (.idiv, 1)) (hy : ¬ y = 0) (k : sm_wp call mc ms M Q (pc + 1) L (.int (x / y) :: st) h c s) : sm_wp call mc ms M Q pc L (.int y :: .int x :: st) h c s := fun P C => C 45 pc x y L st h c s hd hy (k P C)
theorem r_rem {x y : Int32} (hd : decode M.2.1 pc = .ok (.irem, 1)) (hy : ¬ y = 0) (k : sm_wp call mc ms M Q (pc + 1) L (.int (x - x / y * y) :: st) h c s) : sm_wp call mc ms M Q pc L (.int y :: .int x :: st) h c s := fun P C => C 46 pc x y L st h c s hd hy (k P C)
theorem r_ldiv {x y : Int64} (hd : decode M.2.1 pc = .ok (.ldiv, 1)) (hy : ¬ y = 0) (k : sm_wp call mc ms M Q (pc + 1) L (.long (x / y) :: st) h c s) : sm_wp call mc ms M Q pc L (.long y :: .long x :: st) h c s := fun P C => C 47 pc x y L st h c s hd hy (k P C)
theorem r_lrem {x y : Int64} (hd : decode M.2.1 pc = .ok (.lrem, 1)) (hy : ¬ y = 0) (k : sm_wp call mc ms M Q (pc + 1) L (.long (x - x / y * y) :: st) h c s) : sm_wp call mc ms M Q pc L (.long y :: .long x :: st) h c s := fun P C => C 48 pc x y L st h c s hd hy (k P C)
/-- the top of the stack under another name -/
theorem r_top {x y : Int32} (e : x = y) (k : sm_wp call mc ms M Q pc L (.int y :: st) h c s) : sm_wp call mc ms M Q pc L (.int x :: st) h c s := e ▸ k
theorem r_topl {x y : Int64} (e : x = y) (k : sm_wp call mc ms M Q pc L (.long y :: st) h c s) : sm_wp call mc ms M Q pc L (.long x :: st) h c s := e ▸ k
theorem r_h {h' : sm_H} (e : h = h') (k : sm_wp call mc ms M Q pc L st h' c s) : sm_wp call mc ms M Q pc L st h c s := e ▸ k

theorem r_ifeq {tgt : Nat} {off : Int} {x : Int32} (hd : decode M.2.1 pc = .ok (.ifCond .eq off, 3)) (ht : (pc : Int) + off = (tgt : Int)) (k1 : x = 0 → sm_wp call mc ms M Q tgt L st h c s) (k2 : ¬ x = 0 → sm_wp call mc ms M Q (pc + 3) L st h c s) : sm_wp call mc ms M Q pc L (.int x :: st) h c s := fun P C => C 4 pc tgt off x L st h c s hd ht (fun q => k1 q P C) (fun q => k2 q P C)
theorem r_ifeq_t {tgt : Nat} {off : Int} {x : Int32} (hd : decode M.2.1 pc = .ok (.ifCond .eq off, 3)) (ht : (pc : Int) + off = (tgt : Int)) (hx : x = 0) (k1 : sm_wp call mc ms M Q tgt L st h c s) : sm_wp call mc ms M Q pc L (.int x :: st) h c s := r_ifeq hd ht (fun _ => k1) (fun q => absurd hx q)
theorem r_ifeq_f {tgt : Nat} {off : Int} {x : Int32} (hd : decode M.2.1 pc = .ok (.ifCond .eq off, 3)) (ht : (pc : Int) + off = (tgt : Int)) (hx : ¬ x = 0) (k2 : sm_wp call mc ms M Q (pc + 3) L st h c s) : sm_wp call mc ms M Q pc L (.int x :: st) h c s := r_ifeq hd ht (fun q => absurd q hx) (fun _ => k2)
theorem r_ifne {tgt : Nat} {off : Int} {x : Int32} (hd : decode M.2.1 pc = .ok (.ifCond .ne off, 3)) (ht : (pc : Int) + off = (tgt : Int)) (k1 : ¬ x = 0 → sm_wp call mc ms M Q tgt L st h c s) (k2 : x = 0 → sm_wp call mc ms M Q (pc + 3) L st h c s) : sm_wp call mc ms M Q pc L (.int x :: st) h c s := fun P C => C 5 pc tgt off x L st h c s hd ht (fun q => k1 q P C) (fun q => k2 q P C)
theorem r_ifne_t {tgt : Nat} {off : Int} {x : Int32} (hd : decode M.2.1 pc = .ok (.ifCond .ne off, 3)) (ht : (pc : Int) + off = (tgt : Int)) (hx : ¬ x = 0) (k1 : sm_wp call mc ms M Q tgt L st h c s) : sm_wp call mc ms M Q pc L (.int x :: st) h c s := r_ifne hd ht (fun _ => k1) (fun q => absurd q hx)
theorem r_ifne_f {tgt : Nat} {off : Int} {x : Int32} (hd : decode M.2.1 pc = .ok (.ifCond .ne off, 3)) (ht : (pc : Int) + off = (tgt : Int)) (hx : x = 0) (k2 : sm_wp call mc ms M Q (pc + 3) L st h c s) : sm_wp call mc ms M Q pc L (.int x :: st) h c s := r_ifne hd ht (fun q => absurd hx q) (fun _ => k2)
theorem r_iflt {tgt : Nat} {off : Int} {x : Int32} (hd : decode M.2.1 pc = .ok (.ifCond .lt off, 3)) (ht : (pc : Int) + off = (tgt : Int)) (k1 : x < 0 → sm_wp call mc ms M Q tgt L st h c s) (k2 : ¬ x < 0 → sm_wp call mc ms M Q (pc + 3) L st h c s) : sm_wp call mc ms M Q pc L (.int x :: st) h c s := fun P C => C 6 pc tgt off x L st h c s hd ht (fun q => k1 q P C) (fun q => k2 q P C)
theorem r_iflt_t {tgt : Nat} {off : Int} {x : Int32} (hd : decode M.2.1 pc = .ok (.ifCond .lt off, 3)) (ht : (pc : Int) + off = (tgt : Int)) (hx : x < 0) (k1 : sm_wp call mc ms M Q tgt L st h c s) : sm_wp call mc ms M Q pc L (.int x :: st) h c s := r_iflt hd ht (fun _ => k1) (fun q => absurd hx q)
theorem r_iflt_f {tgt : Nat} {off : Int} {x : Int32} (hd : decode M.2.1 pc = .ok (.ifCond .lt off, 3)) (ht : (pc : Int) + off = (tgt : Int)) (hx : ¬ x < 0) (k2 : sm_wp call mc ms M Q (pc + 3) L st h c s) : sm_wp call mc ms M Q pc L (.int x :: st) h c s := r_iflt hd ht (fun q => absurd q hx) (fun _ => k2)
theorem r_ifge {tgt : Nat} {off : Int} {x : Int32} (hd : decode M.2.1 pc = .ok (.ifCond .ge off, 3)) (ht : (pc : Int) + off = (tgt : Int)) (k1 : 0 ≤ x → sm_wp call mc ms M Q tgt L st h c s) (k2 : ¬ 0 ≤ x → sm_wp call mc ms M Q (pc + 3) L st h c s) : sm_wp call mc ms M Q pc L (.int x :: st) h c s := fun P C => C 7 pc tgt off x L st h c s hd ht (fun q => k1 q P C) (fun q => k2 q P C)
theorem r_ifge_t {tgt : Nat} {off : Int} {x : Int32} (hd : decode M.2.1 pc = .ok (.ifCond .ge off, 3)) (ht : (pc : Int) + off = (tgt : Int)) (hx : 0 ≤ x) (k1 : sm_wp call mc ms M Q tgt L st h c s) : sm_wp call mc ms M Q pc L (.int x :: st) h c s := r_ifge hd ht (fun _ => k1) (fun q => absurd hx q)
theorem r_ifge_f {tgt : Nat} {off : Int} {x : Int32} (hd : decode M.2.1 pc = .ok (.ifCond .ge off, 3)) (ht : (pc : Int) + off = (tgt : Int)) (hx : ¬ 0 ≤ x) (k2 : sm_wp call mc ms M Q (pc + 3) L st h c s) : sm_wp call mc ms M Q pc L (.int x :: st) h c s := r_ifge hd ht (fun q => absurd q hx) (fun _ => k2)
theorem r_ifgt {tgt : Nat} {off : Int} {x : Int32} (hd : decode M.2.1 pc = .ok (.ifCond .gt off, 3)) (ht : (pc : Int) + off = (tgt : Int)) (k1 : 0 < x → sm_wp call mc ms M Q tgt L st h c s) (k2 : ¬ 0 < x → sm_wp call mc ms M Q (pc + 3) L st h c s) : sm_wp call mc ms M Q pc L (.int x :: st) h c s := fun P C => C 8 pc tgt off x L st h c s hd ht (fun q => k1 q P C) (fun q => k2 q P C)
theorem r_ifgt_t {tgt : Nat} {off : Int} {x : Int32} (hd : decode M.2.1 pc = .ok (.ifCond .gt off, 3)) (ht : (pc : Int) + off = (tgt : Int)) (hx : 0 < x) (k1 : sm_wp call mc ms M Q tgt L st h c s) : sm_wp call mc ms M Q pc L (.int x :: st) h c s := r_ifgt hd ht (fun _ => k1) (fun q => absurd hx q)
theorem r_ifgt_f {tgt : Nat} {off : Int} {x : Int32} (hd : decode M.2.1 pc = .ok (.ifCond .gt off, 3)) (ht : (pc : Int) + off = (tgt : Int)) (hx : ¬ 0 < x) (k2 : sm_wp call mc ms M Q (pc + 3) L st h c s) : sm_wp call mc ms M Q pc L (.int x :: st) h c s := r_ifgt hd ht (fun q => absurd q hx) (fun _ => k2)
theorem r_ifle {tgt : Nat} {off : Int} {x : Int32} (hd : decode M.2.1 pc = .ok (.ifCond .le off, 3)) (ht : (pc : Int) + off = (tgt : Int)) (k1 : x ≤ 0 → sm_wp call mc ms M Q tgt L st h c s) (k2 : ¬ x ≤ 0 → sm_wp call mc ms M Q (pc + 3) L st h c s) : sm_wp call mc ms M Q pc L (.int x :: st) h c s := fun P C => C 9 pc tgt off x L st h c s hd ht (fun q => k1 q P C) (fun q => k2 q P C)
theorem r_ifle_t {tgt : Nat} {off : Int} {x : Int32} (hd : decode M.2.1 pc = .ok (.ifCond .le off, 3)) (ht : (pc : Int) + off = (tgt : Int)) (hx : x ≤ 0) (k1 : sm_wp call mc ms M Q tgt L st h c s) : sm_wp call mc ms M Q pc L (.int x :: st) h c s := r_ifle hd ht (fun _ => k1) (fun q => absurd hx q)
theorem r_ifle_f {tgt : Nat} {off : Int} {x : Int32} (hd : decode M.2.1 pc = .ok (.ifCond .le off, 3)) (ht : (pc : Int) + off = (tgt : Int)) (hx : ¬ x ≤ 0) (k2 : sm_wp call mc ms M Q (pc + 3) L st h c s) : sm_wp call mc ms M Q pc L (.int x :: st) h c s := r_ifle hd ht (fun q => absurd q hx) (fun _ => k2)
theorem r_ceq {tgt : Nat} {off : Int} {x y : Int32} (hd : decode M.2.1 pc = .ok (.if_icmp .eq off, 3)) (ht : (pc : Int) + off = (tgt : Int)) (k1 : x = y → sm_wp call mc ms M Q tgt L st h c s) (k2 : ¬ x = y → sm_wp call mc ms M Q (pc + 3) L st h c s) : sm_wp call mc ms M Q pc L (.int y :: .int x :: st) h c s := fun P C => C 10 pc tgt off x y L st h c s hd ht (fun q => k1 q P C) (fun q => k2 q P C)
theorem r_ceq_t {tgt : Nat} {off : Int} {x y : Int32} (hd : decode M.2.1 pc = .ok (.if_icmp .eq off, 3)) (ht : (pc : Int) + off = (tgt : Int)) (hx : x = y) (k1 : sm_wp call mc ms M Q tgt L st h c s) : sm_wp call mc ms M Q pc L (.int y :: .int x :: st) h c s := r_ceq hd ht (fun _ => k1) (fun q => absurd hx q)
theorem r_ceq_f {tgt : Nat} {off : Int} {x y : Int32} (hd : decode M.2.1 pc = .ok (.if_icmp .eq off, 3)) (ht : (pc : Int) + off = (tgt : Int)) (hx : ¬ x = y) (k2 : sm_wp call mc ms M Q (pc + 3) L st h c s) : sm_wp call mc ms M Q pc L (.int y :: .int x :: st) h c s := r_ceq hd ht (fun q => absurd q hx) (fun _ => k2)
theorem r_cne {tgt : Nat} {off : Int} {x y : Int32} (hd : decode M.2.1 pc = .ok (.if_icmp .ne off, 3)) (ht : (pc : Int) + off = (tgt : Int)) (k1 : ¬ x = y → sm_wp call mc ms M Q tgt L st h c s) (k2 : x = y → sm_wp call mc ms M Q (pc + 3) L st h c s) : sm_wp call mc ms M Q pc L (.int y :: .int x :: st) h c s := fun P C => C 11 pc tgt off x y L st h c s hd ht (fun q => k1 q P C) (fun q => k2 q P C)
theorem r_cne_t {tgt : Nat} {off : Int} {x y : Int32} (hd : decode M.2.1 pc = .ok (.if_icmp .ne off, 3)) (ht : (pc : Int) + off = (tgt : Int)) (hx : ¬ x = y) (k1 : sm_wp call mc ms M Q tgt L st h c s) : sm_wp call mc ms M Q pc L (.int y :: .int x :: st) h c s := r_cne hd ht (fun _ => k1) (fun q => absurd q hx)
theorem r_cne_f {tgt : Nat} {off : Int} {x y : Int32} (hd : decode M.2.1 pc = .ok (.if_icmp .ne off, 3)) (ht : (pc : Int) + off = (tgt : Int)) (hx : x = y) (k2 : sm_wp call mc ms M Q (pc + 3) L st h c s) : sm_wp call mc ms M Q pc L (.int y :: .int x :: st) h c s := r_cne hd ht (fun q => absurd hx q) (fun _ => k2)
theorem r_clt {tgt : Nat} {off : Int} {x y : Int32} (hd : decode M.2.1 pc = .ok (.if_icmp .lt off, 3)) (ht : (pc : Int) + off = (tgt : Int)) (k1 : x < y → sm_wp call mc ms M Q tgt L st h c s) (k2 : ¬ x < y → sm_wp call mc ms M Q (pc + 3) L st h c s) : sm_wp call mc ms M Q pc L (.int y :: .int x :: st) h c s := fun P C => C 12 pc tgt off x y L st h c s hd ht (fun q => k1 q P C) (fun q => k2 q P C)
theorem r_clt_t {tgt : Nat} {off : Int} {x y : Int32} (hd : decode M.2.1 pc = .ok (.if_icmp .lt off, 3)) (ht : (pc : Int) + off = (tgt : Int)) (hx : x < y) (k1 : sm_wp call mc ms M Q tgt L st h c s) : sm_wp call mc ms M Q pc L (.int y :: .int x :: st) h c s := r_clt hd ht (fun _ => k1) (fun q => absurd hx q)
theorem r_clt_f {tgt : Nat} {off : Int} {x y : Int32} (hd : decode M.2.1 pc = .ok (.if_icmp .lt off, 3)) (ht : (pc : Int) + off = (tgt : Int)) (hx : ¬ x < y) (k2 : sm_wp call mc ms M Q (pc + 3) L st h c s) : sm_wp call mc ms M Q pc L (.int y :: .int x :: st) h c s := r_clt hd ht (fun q => absurd q hx) (fun _ => k2)
theorem r_cge {tgt : Nat} {off : Int} {x y : Int32} (hd : decode M.2.1 pc = .ok (.if_icmp .ge off, 3)) (ht : (pc : Int) + off = (tgt : Int)) (k1 : y ≤ x → sm_wp call mc ms M Q tgt L st h c s) (k2 : ¬ y ≤ x → sm_wp call mc ms M Q (pc + 3) L st h c s) : sm_wp call mc ms M Q pc L (.int y :: .int x :: st) h c s := fun P C => C 13 pc tgt off x y L st h c s hd ht (fun q => k1 q P C) (fun q => k2 q P C)
theorem r_cge_t {tgt : Nat} {off : Int} {x y : Int32} (hd : decode M.2.1 pc = .ok (.if_icmp .ge off, 3)) (ht : (pc : Int) + off = (tgt : Int)) (hx : y ≤ x) (k1 : sm_wp call mc ms M Q tgt L st h c s) : sm_wp call mc ms M Q pc L (.int y :: .int x :: st) h c s := r_cge hd ht (fun _ => k1) (fun q => absurd hx q)
theorem r_cge_f {tgt : Nat} {off : Int} {x y : Int32} (hd : decode M.2.1 pc = .ok (.if_icmp .ge off, 3)) (ht : (pc : Int) + off = (tgt : Int)) (hx : ¬ y ≤ x) (k2 : sm_wp call mc ms M Q (pc + 3) L st h c s) : sm_wp call mc ms M Q pc L (.int y :: .int x :: st) h c s := r_cge hd ht (fun q => absurd q hx) (fun _ => k2)
theorem r_cgt {tgt : Nat} {off : Int} {x y : Int32} (hd : decode M.2.1 pc = .ok (.if_icmp .gt off, 3)) (ht : (pc : Int) + off = (tgt : Int)) (k1 : y < x → sm_wp call mc ms M Q tgt L st h c s) (k2 : ¬ y < x → sm_wp call mc ms M Q (pc + 3) L st h c s) : sm_wp call mc ms M Q pc L (.int y :: .int x :: st) h c s := fun P C => C 14 pc tgt off x y L st h c s hd ht (fun q => k1 q P C) (fun q => k2 q P C)
theorem r_cgt_t {tgt : Nat} {off : Int} {x y : Int32} (hd : decode M.2.1 pc = .ok (.if_icmp .gt off, 3)) (ht : (pc : Int) + off = (tgt : Int)) (hx : y < x) (k1 : sm_wp call mc ms M Q tgt L st h c s) : sm_wp call mc ms M Q pc L (.int y :: .int x :: st) h c s := r_cgt hd ht (fun _ => k1) (fun q => absurd hx q)
theorem r_cgt_f {tgt : Nat} {off : Int} {x y : Int32} (hd : decode M.2.1 pc = .ok (.if_icmp .gt off, 3)) (ht : (pc : Int) + off = (tgt : Int)) (hx : ¬ y < x) (k2 : sm_wp call mc ms M Q (pc + 3) L st h c s) : sm_wp call mc ms M Q pc L (.int y :: .int x :: st) h c s := r_cgt hd ht (fun q => absurd q hx) (fun _ => k2)
theorem r_cle {tgt : Nat} {off : Int} {x y : Int32} (hd : decode M.2.1 pc = .ok (.if_icmp .le off, 3)) (ht : (pc : Int) + off = (tgt : Int)) (k1 : x ≤ y → sm_wp call mc ms M Q tgt L st h c s) (k2 : ¬ x ≤ y → sm_wp call mc ms M Q (pc + 3) L st h c s) : sm_wp call mc ms M Q pc L (.int y :: .int x :: st) h c s := fun P C => C 15 pc tgt off x y L st h c s hd ht (fun q => k1 q P C) (fun q => k2 q P C)
theorem r_cle_t {tgt : Nat} {off : Int} {x y : Int32} (hd : decode M.2.1 pc = .ok (.if_icmp .le off, 3)) (ht : (pc : Int) + off = (tgt : Int)) (hx : x ≤ y) (k1 : sm_wp call mc ms M Q tgt L st h c s) : sm_wp call mc ms M Q pc L (.int y :: .int x :: st) h c s := r_cle hd ht (fun _ => k1) (fun q => absurd hx q)
theorem r_cle_f {tgt : Nat} {off : Int} {x y : Int32} (hd : decode M.2.1 pc = .ok (.if_icmp .le off, 3)) (ht : (pc : Int) + off = (tgt : Int)) (hx : ¬ x ≤ y) (k2 : sm_wp call mc ms M Q (pc + 3) L st h c s) : sm_wp call mc ms M Q pc L (.int y :: .int x :: st) h c s := r_cle hd ht (fun q => absurd q hx) (fun _ => k2)
end SMR
theorem sm_rule_mono {call : sm_K} {mc ms : Nat} {M : sm_M} {Q1 Q2 : sm_Q} {P : sm_P} (hQ : ∀ r h, Q1 r h → Q2 r h) : ∀ k, sm_rule call mc ms M Q2 P k → sm_rule call mc ms M Q1 P k
  | 20 => fun H pc ty v L h c s a1 a2 a3 a4 a5 a6 => H pc ty v L h c s a1 a2 a3 a4 a5 (hQ _ _ a6)
  | 21 => fun H pc v L h c s a1 a2 a3 a4 a5 => H pc v L h c s a1 a2 a3 a4 (hQ _ _ a5)
  | 22 => fun H pc L h c s a1 a2 a3 a4 a5 => H pc L h c s a1 a2 a3 a4 (hQ _ _ a5)
  | 0 => fun H => H
  | 1 => fun H => H
  | 2 => fun H => H
  | 3 => fun H => H
  | 4 => fun H => H
  | 5 => fun H => H
  | 6 => fun H => H
  | 7 => fun H => H
  | 8 => fun H => H
  | 9 => fun H => H
  | 10 => fun H => H
  | 11 => fun H => H
  | 12 => fun H => H
  | 13 => fun H => H
  | 14 => fun H => H
  | 15 => fun H => H
  | 16 => fun H => H
  | 17 => fun H => H
  | 18 => fun H => H
  | 19 => fun H => H
  | 23 => fun H => H
  | 24 => fun H => H
  | 25 => fun H => H
  | 26 => fun H => H
  | 27 => fun H => H
  | 28 => fun H => H
  | 29 => fun H => H
  | 30 => fun H => H
  | 31 => fun H => H
  | 32 => fun H => H
  | 33 => fun H => H
  | 34 => fun H => H
  | 35 => fun H => H
  | 36 => fun H => H
  | 37 => fun H => H
  | 38 => fun H => H
  | 39 => fun H => H
  | 40 => fun H => H
  | 41 => fun H => H
  | 42 => fun H => H
  | 43 => fun H => H
  | 44 => fun H => H
  | 45 => fun H => H
  | 46 => fun H => H
  | 47 => fun H => H
  | 48 => fun H => H
  | _ + 49 => fun H => H
theorem sm_wp_mono {call : sm_K} {mc ms : Nat} {M : sm_M} {Q1 Q2 : sm_Q} {pc : Nat} {L st : List Value} {h : sm_H} {c s : Nat} (hQ : ∀ r h, Q1 r h → Q2 r h) (k : sm_wp call mc ms M Q1 pc L st h c s) : sm_wp call mc ms M Q2 pc L st h c s := fun P C => k P (fun i => sm_rule_mono hQ i (C i))
theorem sm_c_mono {d mc ms : Nat} {M : sm_M} {args : List Value} {h : sm_H} {Q1 Q2 : sm_Q} (hQ : ∀ r h, Q1 r h → Q2 r h) (k : sm_c d mc ms M args h Q1) : sm_c d mc ms M args h Q2 := by
  cases d with
  | zero => exact k
  | succ d => exact ⟨k.1, sm_wp_mono hQ k.2⟩
def qi (post : Int32 → sm_H → Prop) : sm_Q := fun r h' => ∃ x, r = some (.int x) ∧ post x h'
def ql (post : Int64 → sm_H → Prop) : sm_Q := fun r h' => ∃ x, r = some (.long x) ∧ post x h'
def qv (post : sm_H → Prop) : sm_Q := fun r h' => r = none ∧ post h'
abbrev ci (d : Nat) (M : sm_M) (args : List Value) (h : sm_H) (post : Int32 → sm_H → Prop) : Prop := sm_c d 0 0 M args h (qi post)
abbrev cl (d : Nat) (M : sm_M) (args : List Value) (h : sm_H) (post : Int64 → sm_H → Prop) : Prop := sm_c d 0 0 M args h (ql post)
abbrev cv (d : Nat) (M : sm_M) (args : List Value) (h : sm_H) (post : sm_H → Prop) : Prop := sm_c d 0 0 M args h (qv post)
theorem ci_mono {d : Nat} {M : sm_M} {args : List Value} {h : sm_H} {p1 p2 : Int32 → sm_H → Prop} (k : ci d M args h p1) (hp : ∀ x h', p1 x h' → p2 x h') : ci d M args h p2 := sm_c_mono (fun _ _ ⟨x, e, q⟩ => ⟨x, e, hp x _ q⟩) k
theorem cv_mono {d : Nat} {M : sm_M} {args : List Value} {h : sm_H} {p1 p2 : sm_H → Prop} (k : cv d M args h p1) (hp : ∀ h', p1 h' → p2 h') : cv d M args h p2 := sm_c_mono (fun _ _ ⟨e, q⟩ => ⟨e, hp _ q⟩) k
theorem c_in {d mc ms : Nat} {M : sm_M} {args : List Value} {h : sm_H} {Q : sm_Q} {L : List Value} (h1 : Nat.ble (sm_fl args).length M.2.2.1 = true) (h2 : sm_en args M.2.2.1 = L) (k : sm_wp (sm_c d) mc ms M Q 0 L [] h 0 0) : sm_c (d + 1) mc ms M args h Q := ⟨Nat.le_of_ble_eq_true h1, by rw [h2]; exact k⟩
section SMK
variable {d mc ms : Nat} {M : sm_M} {Q : sm_Q} {pc : Nat} {L st : List Value} {h : sm_H} {c s : Nat}
theorem r_Vi0 {idx c0 q : Nat} {M' : sm_M} {post : Int32 → sm_H → Prop} (hd : decode M.2.1 pc = .ok (.invokevirtual idx, 3)) (hL : sm_LV M.1.cls idx M' 0) (hq : q < h.1) (hk : (h.2.1 q).1 = c0 + 3) (hcl : vwCl[c0]? = some (sm_cl c0)) (hcn : (sm_cl c0).1 = M'.1.cls) (hcat : Nat.ble (st.map (fun v => v.category)).sum 8 = true) (hc : c ≤ mc) (hs : s ≤ ms) (hct : sm_c d 0 0 M' (.ref q :: []) h (qi post)) (k : ∀ (x : Int32) (h' : sm_H), post x h' → sm_wp (sm_c d) mc ms M Q (pc + 3) L (.int x :: st) h' c s) : sm_wp (sm_c d) mc ms M Q pc L (.ref q :: st) h c s := fun P C => C 37 pc idx c0 q 0 0 M' [] L st h c s hd hL hq hk hcl hcn (sm_catb hcat) hc hs (sm_c_mono (fun r h9 ⟨x, e, q⟩ => by subst e; exact k x h9 q P C) hct)
theorem r_Si0 {idx : Nat} {M' : sm_M} {post : Int32 → sm_H → Prop} (hd : decode M.2.1 pc = .ok (.invokestatic idx, 3)) (hL : sm_LS M.1.cls idx M' 0) (hcat : Nat.ble (st.map (fun v => v.category)).sum 8 = true) (hc : c ≤ mc) (hs : s ≤ ms) (hct : sm_c d 0 0 M' [] h (qi post)) (k : ∀ (x : Int32) (h' : sm_H), post x h' → sm_wp (sm_c d) mc ms M Q (pc + 3) L (.int x :: st) h' c s) : sm_wp (sm_c d) mc ms M Q pc L (st) h c s := fun P C => C 38 pc idx 0 0 M' [] L st h c s hd hL (sm_catb hcat) hc hs (sm_c_mono (fun r h9 ⟨x, e, q⟩ => by subst e; exact k x h9 q P C) hct)
theorem r_Vl0 {idx c0 q : Nat} {M' : sm_M} {post : Int64 → sm_H → Prop} (hd : decode M.2.1 pc = .ok (.invokevirtual idx, 3)) (hL : sm_LV M.1.cls idx M' 0) (hq : q < h.1) (hk : (h.2.1 q).1 = c0 + 3) (hcl : vwCl[c0]? = some (sm_cl c0)) (hcn : (sm_cl c0).1 = M'.1.cls) (hcat : Nat.ble (st.map (fun v => v.category)).sum 8 = true) (hc : c ≤ mc) (hs : s ≤ ms) (hct : sm_c d 0 0 M' (.ref q :: []) h (ql post)) (k : ∀ (x : Int64) (h' : sm_H), post x h' → sm_wp (sm_c d) mc ms M Q (pc + 3) L (.long x :: st) h' c s) : sm_wp (sm_c d) mc ms M Q pc L (.ref q :: st) h c s := fun P C => C 37 pc idx c0 q 0 0 M' [] L st h c s hd hL hq hk hcl hcn (sm_catb hcat) hc hs (sm_c_mono (fun r h9 ⟨x, e, q⟩ => by subst e; exact k x h9 q P C) hct)
theorem r_Sl0 {idx : Nat} {M' : sm_M} {post : Int64 → sm_H → Prop} (hd : decode M.2.1 pc = .ok (.invokestatic idx, 3)) (hL : sm_LS M.1.cls idx M' 0) (hcat : Nat.ble (st.map (fun v => v.category)).sum 8 = true) (hc : c ≤ mc) (hs : s ≤ ms) (hct : sm_c d 0 0 M' [] h (ql post)) (k : ∀ (x : Int64) (h' : sm_H), post x h' → sm_wp (sm_c d) mc ms M Q (pc + 3) L (.long x :: st) h' c s) : sm_wp (sm_c d) mc ms M Q pc L (st) h c s := fun P C => C 38 pc idx 0 0 M' [] L st h c s hd hL (sm_catb hcat) hc hs (sm_c_mono (fun r h9 ⟨x, e, q⟩ => by subst e; exact k x h9 q P C) hct)
theorem r_Vv0 {idx c0 q : Nat} {M' : sm_M} {post : sm_H → Prop} (hd : decode M.2.1 pc = .ok (.invokevirtual idx, 3)) (hL : sm_LV M.1.cls idx M' 0) (hq : q < h.1) (hk : (h.2.1 q).1 = c0 + 3) (hcl : vwCl[c0]? = some (sm_cl c0)) (hcn : (sm_cl c0).1 = M'.1.cls) (hcat : Nat.ble (st.map (fun v => v.category)).sum 8 = true) (hc : c ≤ mc) (hs : s ≤ ms) (hct : sm_c d 0 0 M' (.ref q :: []) h (qv post)) (k : ∀ (h' : sm_H), post h' → sm_wp (sm_c d) mc ms M Q (pc + 3) L (st) h' c s) : sm_wp (sm_c d) mc ms M Q pc L (.ref q :: st) h c s := fun P C => C 37 pc idx c0 q 0 0 M' [] L st h c s hd hL hq hk hcl hcn (sm_catb hcat) hc hs (sm_c_mono (fun r h9 ⟨e, q⟩ => by subst e; exact k h9 q P C) hct)
theorem r_Sv0 {idx : Nat} {M' : sm_M} {post : sm_H → Prop} (hd : decode M.2.1 pc = .ok (.invokestatic idx, 3)) (hL : sm_LS M.1.cls idx M' 0) (hcat : Nat.ble (st.map (fun v => v.category)).sum 8 = true) (hc : c ≤ mc) (hs : s ≤ ms) (hct : sm_c d 0 0 M' [] h (qv post)) (k : ∀ (h' : sm_H), post h' → sm_wp (sm_c d) mc ms M Q (pc + 3) L (st) h' c s) : sm_wp (sm_c d) mc ms M Q pc L (st) h c s := fun P C => C 38 pc idx 0 0 M' [] L st h c s hd hL (sm_catb hcat) hc hs (sm_c_mono (fun r h9 ⟨e, q⟩ => by subst e; exact k h9 q P C) hct)
theorem r_Iv0 {idx q mc' ms' : Nat} {M' : sm_M} {post : sm_H → Prop} (hd : decode M.2.1 pc = .ok (.invokespecial idx, 3)) (hL : sm_LI M.1.cls idx M' 0) (hcat : Nat.ble (st.map (fun v => v.category)).sum 8 = true) (hc : c + mc' ≤ mc) (hs : s + ms' ≤ ms) (hct : sm_c d mc' ms' M' (.ref q :: []) h (qv post)) (k : ∀ (h' : sm_H), post h' → sm_wp (sm_c d) mc ms M Q (pc + 3) L (st) h' (c + mc') (s + ms')) : sm_wp (sm_c d) mc ms M Q pc L (.ref q :: st) h c s := fun P C => C 39 pc idx q mc' ms' M' [] L st h c s hd hL (sm_catb hcat) hc hs (sm_c_mono (fun r h9 ⟨e, q⟩ => by subst e; exact k h9 q P C) hct)
theorem r_Nv0 {idx q mc' ms' : Nat} {M' : sm_M} {post : sm_H → Prop} (hd : decode M.2.1 pc = .ok (.invokespecial idx, 3)) (hL : sm_LN M.1.cls idx M' 0) (hcat : Nat.ble (st.map (fun v => v.category)).sum 8 = true) (hc : c + mc' ≤ mc) (hs : s + ms' ≤ ms) (hct : sm_c d mc' ms' M' (.ref q :: []) h (qv post)) (k : ∀ (h' : sm_H), post h' → sm_wp (sm_c d) mc ms M Q (pc + 3) L (st) h' (c + mc') (s + ms')) : sm_wp (sm_c d) mc ms M Q pc L (.ref q :: st) h c s := fun P C => C 40 pc idx q mc' ms' M' [] L st h c s hd hL (sm_catb hcat) hc hs (sm_c_mono (fun r h9 ⟨e, q⟩ => by subst e; exact k h9 q P C) hct)
theorem r_Vi1 {idx c0 q : Nat} {M' : sm_M} {a0 : Value} {post : Int32 → sm_H → Prop} (hd : decode M.2.1 pc = .ok (.invokevirtual idx, 3)) (hL : sm_LV M.1.cls idx M' 1) (hq : q < h.1) (hk : (h.2.1 q).1 = c0 + 3) (hcl : vwCl[c0]? = some (sm_cl c0)) (hcn : (sm_cl c0).1 = M'.1.cls) (hcat : Nat.ble (st.map (fun v => v.category)).sum 8 = true) (hc : c ≤ mc) (hs : s ≤ ms) (hct : sm_c d 0 0 M' (.ref q :: [a0]) h (qi post)) (k : ∀ (x : Int32) (h' : sm_H), post x h' → sm_wp (sm_c d) mc ms M Q (pc + 3) L (.int x :: st) h' c s) : sm_wp (sm_c d) mc ms M Q pc L (a0 :: .ref q :: st) h c s := fun P C => C 37 pc idx c0 q 0 0 M' [a0] L st h c s hd hL hq hk hcl hcn (sm_catb hcat) hc hs (sm_c_mono (fun r h9 ⟨x, e, q⟩ => by subst e; exact k x h9 q P C) hct)
theorem r_Si1 {idx : Nat} {M' : sm_M} {a0 : Value} {post : Int32 → sm_H → Prop} (hd : decode M.2.1 pc = .ok (.invokestatic idx, 3)) (hL : sm_LS M.1.cls idx M' 1) (hcat : Nat.ble (st.map (fun v => v.category)).sum 8 = true) (hc : c ≤ mc) (hs : s ≤ ms) (hct : sm_c d 0 0 M' [a0] h (qi post)) (k : ∀ (x : Int32) (h' : sm_H), post x h' → sm_wp (sm_c d) mc ms M Q (pc + 3) L (.int x :: st) h' c s) : sm_wp (sm_c d) mc ms M Q pc L (a0 :: st) h c s := fun P C => C 38 pc idx 0 0 M' [a0] L st h c s hd hL (sm_catb hcat) hc hs (sm_c_mono (fun r h9 ⟨x, e, q⟩ => by subst e; exact k x h9 q P C) hct)
theorem r_Vl1 {idx c0 q : Nat} {M' : sm_M} {a0 : Value} {post : Int64 → sm_H → Prop} (hd : decode M.2.1 pc = .ok (.invokevirtual idx, 3)) (hL : sm_LV M.1.cls idx M' 1) (hq : q < h.1) (hk : (h.2.1 q).1 = c0 + 3) (hcl : vwCl[c0]? = some (sm_cl c0)) (hcn : (sm_cl c0).1 = M'.1.cls) (hcat : Nat.ble (st.map (fun v => v.category)).sum 8 = true) (hc : c ≤ mc) (hs : s ≤ ms) (hct : sm_c d 0 0 M' (.ref q :: [a0]) h (ql post)) (k : ∀ (x : Int64) (h' : sm_H), post x h' → sm_wp (sm_c d) mc ms M Q (pc + 3) L (.long x :: st) h' c s) : sm_wp (sm_c d) mc ms M Q pc L (a0 :: .ref q :: st) h c s := fun P C => C 37 pc idx c0 q 0 0 M' [a0] L st h c s hd hL hq hk hcl hcn (sm_catb hcat) hc hs (sm_c_mono (fun r h9 ⟨x, e, q⟩ => by subst e; exact k x h9 q P C) hct)
theorem r_Sl1 {idx : Nat} {M' : sm_M} {a0 : Value} {post : Int64 → sm_H → Prop} (hd : decode M.2.1 pc = .ok (.invokestatic idx, 3)) (hL : sm_LS M.1.cls idx M' 1) (hcat : Nat.ble (st.map (fun v => v.category)).sum 8 = true) (hc : c ≤ mc) (hs : s ≤ ms) (hct : sm_c d 0 0 M' [a0] h (ql post)) (k : ∀ (x : Int64) (h' : sm_H), post x h' → sm_wp (sm_c d) mc ms M Q (pc + 3) L (.long x :: st) h' c s) : sm_wp (sm_c d) mc ms M Q pc L (a0 :: st) h c s := fun P C => C 38 pc idx 0 0 M' [a0] L st h c s hd hL (sm_catb hcat) hc hs (sm_c_mono (fun r h9 ⟨x, e, q⟩ => by subst e; exact k x h9 q P C) hct)
theorem r_Vv1 {idx c0 q : Nat} {M' : sm_M} {a0 : Value} {post : sm_H → Prop} (hd : decode M.2.1 pc = .ok (.invokevirtual idx, 3)) (hL : sm_LV M.1.cls idx M' 1) (hq : q < h.1) (hk : (h.2.1 q).1 = c0 + 3) (hcl : vwCl[c0]? = some (sm_cl c0)) (hcn : (sm_cl c0).1 = M'.1.cls) (hcat : Nat.ble (st.map (fun v => v.category)).sum 8 = true) (hc : c ≤ mc) (hs : s ≤ ms) (hct : sm_c d 0 0 M' (.ref q :: [a0]) h (qv post)) (k : ∀ (h' : sm_H), post h' → sm_wp (sm_c d) mc ms M Q (pc + 3) L (st) h' c s) : sm_wp (sm_c d) mc ms M Q pc L (a0 :: .ref q :: st) h c s := fun P C => C 37 pc idx c0 q 0 0 M' [a0] L st h c s hd hL hq hk hcl hcn (sm_catb hcat) hc hs (sm_c_mono (fun r h9 ⟨e, q⟩ => by subst e; exact k h9 q P C) hct)
theorem r_Sv1 {idx : Nat} {M' : sm_M} {a0 : Value} {post : sm_H → Prop} (hd : decode M.2.1 pc = .ok (.invokestatic idx, 3)) (hL : sm_LS M.1.cls idx M' 1) (hcat : Nat.ble (st.map (fun v => v.category)).sum 8 = true) (hc : c ≤ mc) (hs : s ≤ ms) (hct : sm_c d 0 0 M' [a0] h (qv post)) (k : ∀ (h' : sm_H), post h' → sm_wp (sm_c d) mc ms M Q (pc + 3) L (st) h' c s) : sm_wp (sm_c d) mc ms M Q pc L (a0 :: st) h c s := fun P C => C 38 pc idx 0 0 M' [a0] L st h c s hd hL (sm_catb hcat) hc hs (sm_c_mono (fun r h9 ⟨e, q⟩ => by subst e; exact k h9 q P C) hct)
theorem r_Iv1 {idx q mc' ms' : Nat} {M' : sm_M} {a0 : Value} {post : sm_H → Prop} (hd : decode M.2.1 pc = .ok (.invokespecial idx, 3)) (hL : sm_LI M.1.cls idx M' 1) (hcat : Nat.ble (st.map (fun v => v.category)).sum 8 = true) (hc : c + mc' ≤ mc) (hs : s + ms' ≤ ms) (hct : sm_c d mc' ms' M' (.ref q :: [a0]) h (qv post)) (k : ∀ (h' : sm_H), post h' → sm_wp (sm_c d) mc ms M Q (pc + 3) L (st) h' (c + mc') (s + ms')) : sm_wp (sm_c d) mc ms M Q pc L (a0 :: .ref q :: st) h c s := fun P C => C 39 pc idx q mc' ms' M' [a0] L st h c s hd hL (sm_catb hcat) hc hs (sm_c_mono (fun r h9 ⟨e, q⟩ => by subst e; exact k h9 q P C) hct)
theorem r_Nv1 {idx q mc' ms' : Nat} {M' : sm_M} {a0 : Value} {post : sm_H → Prop} (hd : decode M.2.1 pc = .ok (.invokespecial idx, 3)) (hL : sm_LN M.1.cls idx M' 1) (hcat : Nat.ble (st.map (fun v => v.category)).sum 8 = true) (hc : c + mc' ≤ mc) (hs : s + ms' ≤ ms) (hct : sm_c d mc' ms' M' (.ref q :: [a0]) h (qv post)) (k : ∀ (h' : sm_H), post h' → sm_wp (sm_c d) mc ms M Q (pc + 3) L (st) h' (c + mc') (s + ms')) : sm_wp (sm_c d) mc ms M Q pc L (a0 :: .ref q :: st) h c s := fun P C => C 40 pc idx q mc' ms' M' [a0] L st h c s hd hL (sm_catb hcat) hc hs (sm_c_mono (fun r h9 ⟨e, q⟩ => by subst e; exact k h9 q P C) hct)
theorem r_Vi2 {idx c0 q : Nat} {M' : sm_M} {a0 a1 : Value} {post : Int32 → sm_H → Prop} (hd : decode M.2.1 pc = .ok (.invokevirtual idx, 3)) (hL : sm_LV M.1.cls idx M' 2) (hq : q < h.1) (hk : (h.2.1 q).1 = c0 + 3) (hcl : vwCl[c0]? = some (sm_cl c0)) (hcn : (sm_cl c0).1 = M'.1.cls) (hcat : Nat.ble (st.map (fun v => v.category)).sum 8 = true) (hc : c ≤ mc) (hs : s ≤ ms) (hct : sm_c d 0 0 M' (.ref q :: [a0, a1]) h (qi post)) (k : ∀ (x : Int32) (h' : sm_H), post x h' → sm_wp (sm_c d) mc ms M Q (pc + 3) L (.int x :: st) h' c s) : sm_wp (sm_c d) mc ms M Q pc L (a1 :: a0 :: .ref q :: st) h c s := fun P C => C 37 pc idx c0 q 0 0 M' [a0, a1] L st h c s hd hL hq hk hcl hcn (sm_catb hcat) hc hs (sm_c_mono (fun r h9 ⟨x, e, q⟩ => by subst e; exact k x h9 q P C) hct)
theorem r_Si2 {idx : Nat} {M' : sm_M} {a0 a1 : Value} {post : Int32 → sm_H → Prop} (hd : decode M.2.1 pc = .ok (.invokestatic idx, 3)) (hL : sm_LS M.1.cls idx M' 2) (hcat : Nat.ble (st.map (fun v => v.category)).sum 8 = true) (hc : c ≤ mc) (hs : s ≤ ms) (hct : sm_c d 0 0 M' [a0, a1] h (qi post)) (k : ∀ (x : Int32) (h' : sm_H), post x h' → sm_wp (sm_c d) mc ms M Q (pc + 3) L (.int x :: st) h' c s) : sm_wp (sm_c d) mc ms M Q pc L (a1 :: a0 :: st) h c s := fun P C => C 38 pc idx 0 0 M' [a0, a1] L st h c s hd hL (sm_catb hcat) hc hs (sm_c_mono (fun r h9 ⟨x, e, q⟩ => by subst e; exact k x h9 q P C) hct)
theorem r_Vl2 {idx c0 q : Nat} {M' : sm_M} {a0 a1 : Value} {post : Int64 → sm_H → Prop} (hd : decode M.2.1 pc = .ok (.invokevirtual idx, 3)) (hL : sm_LV M.1.cls idx M' 2) (hq : q < h.1) (hk : (h.2.1 q).1 = c0 + 3) (hcl : vwCl[c0]? = some (sm_cl c0)) (hcn : (sm_cl c0).1 = M'.1.cls) (hcat : Nat.ble (st.map (fun v => v.category)).sum 8 = true) (hc : c ≤ mc) (hs : s ≤ ms) (hct : sm_c d 0 0 M' (.ref q :: [a0, a1]) h (ql post)) (k : ∀ (x : Int64) (h' : sm_H), post x h' → sm_wp (sm_c d) mc ms M Q (pc + 3) L (.long x :: st) h' c s) : sm_wp (sm_c d) mc ms M Q pc L (a1 :: a0 :: .ref q :: st) h c s := fun P C => C 37 pc idx c0 q 0 0 M' [a0, a1] L st h c s hd hL hq hk hcl hcn (sm_catb hcat) hc hs (sm_c_mono (fun r h9 ⟨x, e, q⟩ => by subst e; exact k x h9 q P C) hct)
theorem r_Sl2 {idx : Nat} {M' : sm_M} {a0 a1 : Value} {post : Int64 → sm_H → Prop} (hd : decode M.2.1 pc = .ok (.invokestatic idx, 3)) (hL : sm_LS M.1.cls idx M' 2) (hcat : Nat.ble (st.map (fun v => v.category)).sum 8 = true) (hc : c ≤ mc) (hs : s ≤ ms) (hct : sm_c d 0 0 M' [a0, a1] h (ql post)) (k : ∀ (x : Int64) (h' : sm_H), post x h' → sm_wp (sm_c d) mc ms M Q (pc + 3) L (.long x :: st) h' c s) : sm_wp (sm_c d) mc ms M Q pc L (a1 :: a0 :: st) h c s := fun P C => C 38 pc idx 0 0 M' [a0, a1] L st h c s hd hL (sm_catb hcat) hc hs (sm_c_mono (fun r h9 ⟨x, e, q⟩ => by subst e; exact k x h9 q P C) hct)
theorem r_Vv2 {idx c0 q : Nat} {M' : sm_M} {a0 a1 : Value} {post : sm_H → Prop} (hd : decode M.2.1 pc = .ok (.invokevirtual idx, 3)) (hL : sm_LV M.1.cls idx M' 2) (hq : q < h.1) (hk : (h.2.1 q).1 = c0 + 3) (hcl : vwCl[c0]? = some (sm_cl c0)) (hcn : (sm_cl c0).1 = M'.1.cls) (hcat : Nat.ble (st.map (fun v => v.category)).sum 8 = true) (hc : c ≤ mc) (hs : s ≤ ms) (hct : sm_c d 0 0 M' (.ref q :: [a0, a1]) h (qv post)) (k : ∀ (h' : sm_H), post h' → sm_wp (sm_c d) mc ms M Q (pc + 3) L (st) h' c s) : sm_wp (sm_c d) mc ms M Q pc L (a1 :: a0 :: .ref q :: st) h c s := fun P C => C 37 pc idx c0 q 0 0 M' [a0, a1] L st h c s hd hL hq hk hcl hcn (sm_catb hcat) hc hs (sm_c_mono (fun r h9 ⟨e, q⟩ => by subst e; exact k h9 q P C) hct)
theorem r_Sv2 {idx : Nat} {M' : sm_M} {a0 a1 : Value} {post : sm_H → Prop} (hd : decode M.2.1 pc = .ok (.invokestatic idx, 3)) (hL : sm_LS M.1.cls idx M' 2) (hcat : Nat.ble (st.map (fun v => v.category)).sum 8 = true) (hc : c ≤ mc) (hs : s ≤ ms) (hct : sm_c d 0 0 M' [a0, a1] h (qv post)) (k : ∀ (h' : sm_H), post h' → sm_wp (sm_c d) mc ms M Q (pc + 3) L (st) h' c s) : sm_wp (sm_c d) mc ms M Q pc L (a1 :: a0 :: st) h c s := fun P C => C 38 pc idx 0 0 M' [a0, a1] L st h c s hd hL (sm_catb hcat) hc hs (sm_c_mono (fun r h9 ⟨e, q⟩ => by subst e; exact k h9 q P C) hct)
theorem r_Iv2 {idx q mc' ms' : Nat} {M' : sm_M} {a0 a1 : Value} {post : sm_H → Prop} (hd : decode M.2.1 pc = .ok (.invokespecial idx, 3)) (hL : sm_LI M.1.cls idx M' 2) (hcat : Nat.ble (st.map (fun v => v.category)).sum 8 = true) (hc : c + mc' ≤ mc) (hs : s + ms' ≤ ms) (hct : sm_c d mc' ms' M' (.ref q :: [a0, a1]) h (qv post)) (k : ∀ (h' : sm_H), post h' → sm_wp (sm_c d) mc ms M Q (pc + 3) L (st) h' (c + mc') (s + ms')) : sm_wp (sm_c d) mc ms M Q pc L (a1 :: a0 :: .ref q :: st) h c s := fun P C => C 39 pc idx q mc' ms' M' [a0, a1] L st h c s hd hL (sm_catb hcat) hc hs (sm_c_mono (fun r h9 ⟨e, q⟩ => by subst e; exact k h9 q P C) hct)
theorem r_Nv2 {idx q mc' ms' : Nat} {M' : sm_M} {a0 a1 : Value} {post : sm_H → Prop} (hd : decode M.2.1 pc = .ok (.invokespecial idx, 3)) (hL : sm_LN M.1.cls idx M' 2) (hcat : Nat.ble (st.map (fun v => v.category)).sum 8 = true) (hc : c + mc' ≤ mc) (hs : s + ms' ≤ ms) (hct : sm_c d mc' ms' M' (.ref q :: [a0, a1]) h (qv post)) (k : ∀ (h' : sm_H), post h' → sm_wp (sm_c d) mc ms M Q (pc + 3) L (st) h' (c + mc') (s + ms')) : sm_wp (sm_c d) mc ms M Q pc L (a1 :: a0 :: .ref q :: st) h c s := fun P C => C 40 pc idx q mc' ms' M' [a0, a1] L st h c s hd hL (sm_catb hcat) hc hs (sm_c_mono (fun r h9 ⟨e, q⟩ => by subst e; exact k h9 q P C) hct)
theorem r_Vi3 {idx c0 q : Nat} {M' : sm_M} {a0 a1 a2 : Value} {post : Int32 → sm_H → Prop} (hd : decode M.2.1 pc = .ok (.invokevirtual idx, 3)) (hL : sm_LV M.1.cls idx M' 3) (hq : q < h.1) (hk : (h.2.1 q).1 = c0 + 3) (hcl : vwCl[c0]? = some (sm_cl c0)) (hcn : (sm_cl c0).1 = M'.1.cls) (hcat : Nat.ble (st.map (fun v => v.category)).sum 8 = true) (hc : c ≤ mc) (hs : s ≤ ms) (hct : sm_c d 0 0 M' (.ref q :: [a0, a1, a2]) h (qi post)) (k : ∀ (x : Int32) (h' : sm_H), post x h' → sm_wp (sm_c d) mc ms M Q (pc + 3) L (.int x :: st) h' c s) : sm_wp (sm_c d) mc ms M Q pc L (a2 :: a1 :: a0 :: .ref q :: st) h c s := fun P C => C 37 pc idx c0 q 0 0 M' [a0, a1, a2] L st h c s hd hL hq hk hcl hcn (sm_catb hcat) hc hs (sm_c_mono (fun r h9 ⟨x, e, q⟩ => by subst e; exact k x h9 q P C) hct)
theorem r_Si3 {idx : Nat} {M' : sm_M} {a0 a1 a2 : Value} {post : Int32 → sm_H → Prop} (hd : decode M.2.1 pc = .ok (.invokestatic idx, 3)) (hL : sm_LS M.1.cls idx M' 3) (hcat : Nat.ble (st.map (fun v => v.category)).sum 8 = true) (hc : c ≤ mc) (hs : s ≤ ms) (hct : sm_c d 0 0 M' [a0, a1, a2] h (qi post)) (k : ∀ (x : Int32) (h' : sm_H), post x h' → sm_wp (sm_c d) mc ms M Q (pc + 3) L (.int x :: st) h' c s) : sm_wp (sm_c d) mc ms M Q pc L (a2 :: a1 :: a0 :: st) h c s := fun P C => C 38 pc idx 0 0 M' [a0, a1, a2] L st h c s hd hL (sm_catb hcat) hc hs (sm_c_mono (fun r h9 ⟨x, e, q⟩ => by subst e; exact k x h9 q P C) hct)
theorem r_Vl3 {idx c0 q : Nat} {M' : sm_M} {a0 a1 a2 : Value} {post : Int64 → sm_H → Prop} (hd : decode M.2.1 pc = .ok (.invokevirtual idx, 3)) (hL : sm_LV M.1.cls idx M' 3) (hq : q < h.1) (hk : (h.2.1 q).1 = c0 + 3) (hcl : vwCl[c0]? = some (sm_cl c0)) (hcn : (sm_cl c0).1 = M'.1.cls) (hcat : Nat.ble (st.map (fun v => v.category)).sum 8 = true) (hc : c ≤ mc) (hs : s ≤ ms) (hct : sm_c d 0 0 M' (.ref q :: [a0, a1, a2]) h (ql post)) (k : ∀ (x : Int64) (h' : sm_H), post x h' → sm_wp (sm_c d) mc ms M Q (pc + 3) L (.long x :: st) h' c s) : sm_wp (sm_c d) mc ms M Q pc L (a2 :: a1 :: a0 :: .ref q :: st) h c s := fun P C => C 37 pc idx c0 q 0 0 M' [a0, a1, a2] L st h c s hd hL hq hk hcl hcn (sm_catb hcat) hc hs (sm_c_mono (fun r h9 ⟨x, e, q⟩ => by subst e; exact k x h9 q P C) hct)
theorem r_Sl3 {idx : Nat} {M' : sm_M} {a0 a1 a2 : Value} {post : Int64 → sm_H → Prop} (hd : decode M.2.1 pc = .ok (.invokestatic idx, 3)) (hL : sm_LS M.1.cls idx M' 3) (hcat : Nat.ble (st.map (fun v => v.category)).sum 8 = true) (hc : c ≤ mc) (hs : s ≤ ms) (hct : sm_c d 0 0 M' [a0, a1, a2] h (ql post)) (k : ∀ (x : Int64) (h' : sm_H), post x h' → sm_wp (sm_c d) mc ms M Q (pc + 3) L (.long x :: st) h' c s) : sm_wp (sm_c d) mc ms M Q pc L (a2 :: a1 :: a0 :: st) h c s := fun P C => C 38 pc idx 0 0 M' [a0, a1, a2] L st h c s hd hL (sm_catb hcat) hc hs (sm_c_mono (fun r h9 ⟨x, e, q⟩ => by subst e; exact k x h9 q P C) hct)
theorem r_Vv3 {idx c0 q : Nat} {M' : sm_M} {a0 a1 a2 : Value} {post : sm_H → Prop} (hd : decode M.2.1 pc = .ok (.invokevirtual idx, 3)) (hL : sm_LV M.1.cls idx M' 3) (hq : q < h.1) (hk : (h.2.1 q).1 = c0 + 3) (hcl : vwCl[c0]? = some (sm_cl c0)) (hcn : (sm_cl c0).1 = M'.1.cls) (hcat : Nat.ble (st.map (fun v => v.category)).sum 8 = true) (hc : c ≤ mc) (hs : s ≤ ms) (hct : sm_c d 0 0 M' (.ref q :: [a0, a1, a2]) h (qv post)) (k : ∀ (h' : sm_H), post h' → sm_wp (sm_c d) mc ms M Q (pc + 3) L (st) h' c s) : sm_wp (sm_c d) mc ms M Q pc L (a2 :: a1 :: a0 :: .ref q :: st) h c s := fun P C => C 37 pc idx c0 q 0 0 M' [a0, a1, a2] L st h c s hd hL hq hk hcl hcn (sm_catb hcat) hc hs (sm_c_mono (fun r h9 ⟨e, q⟩ => by subst e; exact k h9 q P C) hct)
theorem r_Sv3 {idx : Nat} {M' : sm_M} {a0 a1 a2 : Value} {post : sm_H → Prop} (hd : decode M.2.1 pc = .ok (.invokestatic idx, 3)) (hL : sm_LS M.1.cls idx M' 3) (hcat : Nat.ble (st.map (fun v => v.category)).sum 8 = true) (hc : c ≤ mc) (hs : s ≤ ms) (hct : sm_c d 0 0 M' [a0, a1, a2] h (qv post)) (k : ∀ (h' : sm_H), post h' → sm_wp (sm_c d) mc ms M Q (pc + 3) L (st) h' c s) : sm_wp (sm_c d) mc ms M Q pc L (a2 :: a1 :: a0 :: st) h c s := fun P C => C 38 pc idx 0 0 M' [a0, a1, a2] L st h c s hd hL (sm_catb hcat) hc hs (sm_c_mono (fun r h9 ⟨e, q⟩ => by subst e; exact k h9 q P C) hct)
theorem r_Iv3 {idx q mc' ms' : Nat} {M' : sm_M} {a0 a1 a2 : Value} {post : sm_H → Prop} (hd : decode M.2.1 pc = .ok (.invokespecial idx, 3)) (hL : sm_LI M.1.cls idx M' 3) (hcat : Nat.ble (st.map (fun v => v.category)).sum 8 = true) (hc : c + mc' ≤ mc) (hs : s + ms' ≤ ms) (hct : sm_c d mc' ms' M' (.ref q :: [a0, a1, a2]) h (qv post)) (k : ∀ (h' : sm_H), post h' → sm_wp (sm_c d) mc ms M Q (pc + 3) L (st) h' (c + mc') (s + ms')) : sm_wp (sm_c d) mc ms M Q pc L (a2 :: a1 :: a0 :: .ref q :: st) h c s := fun P C => C 39 pc idx q mc' ms' M' [a0, a1, a2] L st h c s hd hL (sm_catb hcat) hc hs (sm_c_mono (fun r h9 ⟨e, q⟩ => by subst e; exact k h9 q P C) hct)
theorem r_Nv3 {idx q mc' ms' : Nat} {M' : sm_M} {a0 a1 a2 : Value} {post : sm_H → Prop} (hd : decode M.2.1 pc = .ok (.invokespecial idx, 3)) (hL : sm_LN M.1.cls idx M' 3) (hcat : Nat.ble (st.map (fun v => v.category)).sum 8 = true) (hc : c + mc' ≤ mc) (hs : s + ms' ≤ ms) (hct : sm_c d mc' ms' M' (.ref q :: [a0, a1, a2]) h (qv post)) (k : ∀ (h' : sm_H), post h' → sm_wp (sm_c d) mc ms M Q (pc + 3) L (st) h' (c + mc') (s + ms')) : sm_wp (sm_c d) mc ms M Q pc L (a2 :: a1 :: a0 :: .ref q :: st) h c s := fun P C => C 40 pc idx q mc' ms' M' [a0, a1, a2] L st h c s hd hL (sm_catb hcat) hc hs (sm_c_mono (fun r h9 ⟨e, q⟩ => by subst e; exact k h9 q P C) hct)
theorem r_Vi4 {idx c0 q : Nat} {M' : sm_M} {a0 a1 a2 a3 : Value} {post : Int32 → sm_H → Prop} (hd : decode M.2.1 pc = .ok (.invokevirtual idx, 3)) (hL : sm_LV M.1.cls idx M' 4) (hq : q < h.1) (hk : (h.2.1 q).1 = c0 + 3) (hcl : vwCl[c0]? = some (sm_cl c0)) (hcn : (sm_cl c0).1 = M'.1.cls) (hcat : Nat.ble (st.map (fun v => v.category)).sum 8 = true) (hc : c ≤ mc) (hs : s ≤ ms) (hct : sm_c d 0 0 M' (.ref q :: [a0, a1, a2, a3]) h (qi post)) (k : ∀ (x : Int32) (h' : sm_H), post x h' → sm_wp (sm_c d) mc ms M Q (pc + 3) L (.int x :: st) h' c s) : sm_wp (sm_c d) mc ms M Q pc L (a3 :: a2 :: a1 :: a0 :: .ref q :: st) h c s := fun P C => C 37 pc idx c0 q 0 0 M' [a0, a1, a2, a3] L st h c s hd hL hq hk hcl hcn (sm_catb hcat) hc hs (sm_c_mono (fun r h9 ⟨x, e, q⟩ => by subst e; exact k x h9 q P C) hct)
theorem r_Si4 {idx : Nat} {M' : sm_M} {a0 a1 a2 a3 : Value} {post : Int32 → sm_H → Prop} (hd : decode M.2.1 pc = .ok (.invokestatic idx, 3)) (hL : sm_LS M.1.cls idx M' 4) (hcat : Nat.ble (st.map (fun v => v.category)).sum 8 = true) (hc : c ≤ mc) (hs : s ≤ ms) (hct : sm_c d 0 0 M' [a0, a1, a2, a3] h (qi post)) (k : ∀ (x : Int32) (h' : sm_H), post x h' → sm_wp (sm_c d) mc ms M Q (pc + 3) L (.int x :: st) h' c s) : sm_wp (sm_c d) mc ms M Q pc L (a3 :: a2 :: a1 :: a0 :: st) h c s := fun P C => C 38 pc idx 0 0 M' [a0, a1, a2, a3] L st h c s hd hL (sm_catb hcat) hc hs (sm_c_mono (fun r h9 ⟨x, e, q⟩ => by subst e; exact k x h9 q P C) hct)
theorem r_Vl4 {idx c0 q : Nat} {M' : sm_M} {a0 a1 a2 a3 : Value} {post : Int64 → sm_H → Prop} (hd : decode M.2.1 pc = .ok (.invokevirtual idx, 3)) (hL : sm_LV M.1.cls idx M' 4) (hq : q < h.1) (hk : (h.2.1 q).1 = c0 + 3) (hcl : vwCl[c0]? = some (sm_cl c0)) (hcn : (sm_cl c0).1 = M'.1.cls) (hcat : Nat.ble (st.map (fun v => v.category)).sum 8 = true) (hc : c ≤ mc) (hs : s ≤ ms) (hct : sm_c d 0 0 M' (.ref q :: [a0, a1, a2, a3]) h (ql post)) (k : ∀ (x : Int64) (h' : sm_H), post x h' → sm_wp (sm_c d) mc ms M Q (pc + 3) L (.long x :: st) h' c s) : sm_wp (sm_c d) mc ms M Q pc L (a3 :: a2 :: a1 :: a0 :: .ref q :: st) h c s := fun P C => C 37 pc idx c0 q 0 0 M' [a0, a1, a2, a3] L st h c s hd hL hq hk hcl hcn (sm_catb hcat) hc hs (sm_c_mono (fun r h9 ⟨x, e, q⟩ => by subst e; exact k x h9 q P C) hct)
theorem r_Sl4 {idx : Nat} {M' : sm_M} {a0 a1 a2 a3 : Value} {post : Int64 → sm_H → Prop} (hd : decode M.2.1 pc = .ok (.invokestatic idx, 3)) (hL : sm_LS M.1.cls idx M' 4) (hcat : Nat.ble (st.map (fun v => v.category)).sum 8 = true) (hc : c ≤ mc) (hs : s ≤ ms) (hct : sm_c d 0 0 M' [a0, a1, a2, a3] h (ql post)) (k : ∀ (x : Int64) (h' : sm_H), post x h' → sm_wp (sm_c d) mc ms M Q (pc + 3) L (.long x :: st) h' c s) : sm_wp (sm_c d) mc ms M Q pc L (a3 :: a2 :: a1 :: a0 :: st) h c s := fun P C => C 38 pc idx 0 0 M' [a0, a1, a2, a3] L st h c s hd hL (sm_catb hcat) hc hs (sm_c_mono (fun r h9 ⟨x, e, q⟩ => by subst e; exact k x h9 q P C) hct)
theorem r_Vv4 {idx c0 q : Nat} {M' : sm_M} {a0 a1 a2 a3 : Value} {post : sm_H → Prop} (hd : decode M.2.1 pc = .ok (.invokevirtual idx, 3)) (hL : sm_LV M.1.cls idx M' 4) (hq : q < h.1) (hk : (h.2.1 q).1 = c0 + 3) (hcl : vwCl[c0]? = some (sm_cl c0)) (hcn : (sm_cl c0).1 = M'.1.cls) (hcat : Nat.ble (st.map (fun v => v.category)).sum 8 = true) (hc : c ≤ mc) (hs : s ≤ ms) (hct : sm_c d 0 0 M' (.ref q :: [a0, a1, a2, a3]) h (qv post)) (k : ∀ (h' : sm_H), post h' → sm_wp (sm_c d) mc ms M Q (pc + 3) L (st) h' c s) : sm_wp (sm_c d) mc ms M Q pc L (a3 :: a2 :: a1 :: a0 :: .ref q :: st) h c s := fun P C => C 37 pc idx c0 q 0 0 M' [a0, a1, a2, a3] L st h c s hd hL hq hk hcl hcn (sm_catb hcat) hc hs (sm_c_mono (fun r h9 ⟨e, q⟩ => by subst e; exact k h9 q P C) hct)
theorem r_Sv4 {idx : Nat} {M' : sm_M} {a0 a1 a2 a3 : Value} {post : sm_H → Prop} (hd : decode M.2.1 pc = .ok (.invokestatic idx, 3)) (hL : sm_LS M.1.cls idx M' 4) (hcat : Nat.ble (st.map (fun v => v.category)).sum 8 = true) (hc : c ≤ mc) (hs : s ≤ ms) (hct : sm_c d 0 0 M' [a0, a1, a2, a3] h (qv post)) (k : ∀ (h' : sm_H), post h' → sm_wp (sm_c d) mc ms M Q (pc + 3) L (st) h' c s) : sm_wp (sm_c d) mc ms M Q pc L (a3 :: a2 :: a1 :: a0 :: st) h c s := fun P C => C 38 pc idx 0 0 M' [a0, a1, a2, a3] L st h c s hd hL (sm_catb hcat) hc hs (sm_c_mono (fun r h9 ⟨e, q⟩ => by subst e; exact k h9 q P C) hct)
theorem r_Vi5 {idx c0 q : Nat} {M' : sm_M} {a0 a1 a2 a3 a4 : Value} {post : Int32 → sm_H → Prop} (hd : decode M.2.1 pc = .ok (.invokevirtual idx, 3)) (hL : sm_LV M.1.cls idx M' 5) (hq : q < h.1) (hk : (h.2.1 q).1 = c0 + 3) (hcl : vwCl[c0]? = some (sm_cl c0)) (hcn : (sm_cl c0).1 = M'.1.cls) (hcat : Nat.ble (st.map (fun v => v.category)).sum 8 = true) (hc : c ≤ mc) (hs : s ≤ ms) (hct : sm_c d 0 0 M' (.ref q :: [a0, a1, a2, a3, a4]) h (qi post)) (k : ∀ (x : Int32) (h' : sm_H), post x h' → sm_wp (sm_c d) mc ms M Q (pc + 3) L (.int x :: st) h' c s) : sm_wp (sm_c d) mc ms M Q pc L (a4 :: a3 :: a2 :: a1 :: a0 :: .ref q :: st) h c s := fun P C => C 37 pc idx c0 q 0 0 M' [a0, a1, a2, a3, a4] L st h c s hd hL hq hk hcl hcn (sm_catb hcat) hc hs (sm_c_mono (fun r h9 ⟨x, e, q⟩ => by subst e; exact k x h9 q P C) hct)
theorem r_Vl5 {idx c0 q : Nat} {M' : sm_M} {a0 a1 a2 a3 a4 : Value} {post : Int64 → sm_H → Prop} (hd : decode M.2.1 pc = .ok (.invokevirtual idx, 3)) (hL : sm_LV M.1.cls idx M' 5) (hq : q < h.1) (hk : (h.2.1 q).1 = c0 + 3) (hcl : vwCl[c0]? = some (sm_cl c0)) (hcn : (sm_cl c0).1 = M'.1.cls) (hcat : Nat.ble (st.map (fun v => v.category)).sum 8 = true) (hc : c ≤ mc) (hs : s ≤ ms) (hct : sm_c d 0 0 M' (.ref q :: [a0, a1, a2, a3, a4]) h (ql post)) (k : ∀ (x : Int64) (h' : sm_H), post x h' → sm_wp (sm_c d) mc ms M Q (pc + 3) L (.long x :: st) h' c s) : sm_wp (sm_c d) mc ms M Q pc L (a4 :: a3 :: a2 :: a1 :: a0 :: .ref q :: st) h c s := fun P C => C 37 pc idx c0 q 0 0 M' [a0, a1, a2, a3, a4] L st h c s hd hL hq hk hcl hcn (sm_catb hcat) hc hs (sm_c_mono (fun r h9 ⟨x, e, q⟩ => by subst e; exact k x h9 q P C) hct)
theorem r_Vv5 {idx c0 q : Nat} {M' : sm_M} {a0 a1 a2 a3 a4 : Value} {post : sm_H → Prop} (hd : decode M.2.1 pc = .ok (.invokevirtual idx, 3)) (hL : sm_LV M.1.cls idx M' 5) (hq : q < h.1) (hk : (h.2.1 q).1 = c0 + 3) (hcl : vwCl[c0]? = some (sm_cl c0)) (hcn : (sm_cl c0).1 = M'.1.cls) (hcat : Nat.ble (st.map (fun v => v.category)).sum 8 = true) (hc : c ≤ mc) (hs : s ≤ ms) (hct : sm_c d 0 0 M' (.ref q :: [a0, a1, a2, a3, a4]) h (qv post)) (k : ∀ (h' : sm_H), post h' → sm_wp (sm_c d) mc ms M Q (pc + 3) L (st) h' c s) : sm_wp (sm_c d) mc ms M Q pc L (a4 :: a3 :: a2 :: a1 :: a0 :: .ref q :: st) h c s := fun P C => C 37 pc idx c0 q 0 0 M' [a0, a1, a2, a3, a4] L st h c s hd hL hq hk hcl hcn (sm_catb hcat) hc hs (sm_c_mono (fun r h9 ⟨e, q⟩ => by subst e; exact k h9 q P C) hct)
theorem r_Vi6 {idx c0 q : Nat} {M' : sm_M} {a0 a1 a2 a3 a4 a5 : Value} {post : Int32 → sm_H → Prop} (hd : decode M.2.1 pc = .ok (.invokevirtual idx, 3)) (hL : sm_LV M.1.cls idx M' 6) (hq : q < h.1) (hk : (h.2.1 q).1 = c0 + 3) (hcl : vwCl[c0]? = some (sm_cl c0)) (hcn : (sm_cl c0).1 = M'.1.cls) (hcat : Nat.ble (st.map (fun v => v.category)).sum 8 = true) (hc : c ≤ mc) (hs : s ≤ ms) (hct : sm_c d 0 0 M' (.ref q :: [a0, a1, a2, a3, a4, a5]) h (qi post)) (k : ∀ (x : Int32) (h' : sm_H), post x h' → sm_wp (sm_c d) mc ms M Q (pc + 3) L (.int x :: st) h' c s) : sm_wp (sm_c d) mc ms M Q pc L (a5 :: a4 :: a3 :: a2 :: a1 :: a0 :: .ref q :: st) h c s := fun P C => C 37 pc idx c0 q 0 0 M' [a0, a1, a2, a3, a4, a5] L st h c s hd hL hq hk hcl hcn (sm_catb hcat) hc hs (sm_c_mono (fun r h9 ⟨x, e, q⟩ => by subst e; exact k x h9 q P C) hct)
theorem r_Vl6 {idx c0 q : Nat} {M' : sm_M} {a0 a1 a2 a3 a4 a5 : Value} {post : Int64 → sm_H → Prop} (hd : decode M.2.1 pc = .ok (.invokevirtual idx, 3)) (hL : sm_LV M.1.cls idx M' 6) (hq : q < h.1) (hk : (h.2.1 q).1 = c0 + 3) (hcl : vwCl[c0]? = some (sm_cl c0)) (hcn : (sm_cl c0).1 = M'.1.cls) (hcat : Nat.ble (st.map (fun v => v.category)).sum 8 = true) (hc : c ≤ mc) (hs : s ≤ ms) (hct : sm_c d 0 0 M' (.ref q :: [a0, a1, a2, a3, a4, a5]) h (ql post)) (k : ∀ (x : Int64) (h' : sm_H), post x h' → sm_wp (sm_c d) mc ms M Q (pc + 3) L (.long x :: st) h' c s) : sm_wp (sm_c d) mc ms M Q pc L (a5 :: a4 :: a3 :: a2 :: a1 :: a0 :: .ref q :: st) h c s := fun P C => C 37 pc idx c0 q 0 0 M' [a0, a1, a2, a3, a4, a5] L st h c s hd hL hq hk hcl hcn (sm_catb hcat) hc hs (sm_c_mono (fun r h9 ⟨x, e, q⟩ => by subst e; exact k x h9 q P C) hct)
theorem r_Vv6 {idx c0 q : Nat} {M' : sm_M} {a0 a1 a2 a3 a4 a5 : Value} {post : sm_H → Prop} (hd : decode M.2.1 pc = .ok (.invokevirtual idx, 3)) (hL : sm_LV M.1.cls idx M' 6) (hq : q < h.1) (hk : (h.2.1 q).1 = c0 + 3) (hcl : vwCl[c0]? = some (sm_cl c0)) (hcn : (sm_cl c0).1 = M'.1.cls) (hcat : Nat.ble (st.map (fun v => v.category)).sum 8 = true) (hc : c ≤ mc) (hs : s ≤ ms) (hct : sm_c d 0 0 M' (.ref q :: [a0, a1, a2, a3, a4, a5]) h (qv post)) (k : ∀ (h' : sm_H), post h' → sm_wp (sm_c d) mc ms M Q (pc + 3) L (st) h' c s) : sm_wp (sm_c d) mc ms M Q pc L (a5 :: a4 :: a3 :: a2 :: a1 :: a0 :: .ref q :: st) h c s := fun P C => C 37 pc idx c0 q 0 0 M' [a0, a1, a2, a3, a4, a5] L st h c s hd hL hq hk hcl hcn (sm_catb hcat) hc hs (sm_c_mono (fun r h9 ⟨e, q⟩ => by subst e; exact k h9 q P C) hct)
end SMK
def K0l : List (Nat × Nat) := [(9, 0), (2, 4), (5, 0), (0, 6), (0, 6), (0, 8), (0, 8), (0, 8), (0, 8), (5, 0), (0, 6), (0, 6), (0, 8), (0, 8), (0, 8), (0, 8), (3, 0), (1, 9), (0, 6), (0, 6), (0, 6), (0, 6), (0, 6), (0, 6), (0, 6), (0, 6), (0, 6), (1, 9), (0, 7), (0, 7), (0, 7), (0, 7), (0, 7), (0, 7), (0, 7), (0, 7), (0, 7), (0, 9), (4, 0), (0, 8), (0, 8), (0, 8), (8, 0), (5, 0), (0, 6), (0, 6), (0, 8), (0, 8), (0, 8), (0, 8), (3, 0), (1, 9), (0, 6), (0, 6), (0, 6), (0, 6), (0, 6), (0, 6), (0, 6), (0, 6), (0, 6), (1, 9), (0, 7), (0, 7), (0, 7), (0, 7), (0, 7), (0, 7), (0, 7), (0, 7), (0, 7), (0, 9), (6, 0), (0, 60), (6, 0), (0, 60), (6, 0), (0, 60), (6, 0), (0, 60), (10, 0), (0, 6), (0, 6), (0, 8), (0, 8), (0, 8), (0, 8), (0, 6), (0, 6), (0, 8), (0, 8), (0, 8), (0, 8), (0, 8), (0, 6), (0, 8), (0, 8), (0, 8), (0, 4), (0, 4), (0, 240), (0, 60)]
def R0l : List (List (Option Nat)) := [[some 1, some 2, some 9, some 16, some 38, some 42], [some 72, some 74, some 76, some 78], [none, some 3, some 4, none, some 5, some 6, none, some 7, some 8], [], [], [], [], [], [], [none, some 10, some 11, none, some 12, some 13, none, some 14, some 15], [], [], [], [], [], [], [some 2, some 17, some 27, some 37], [some 18, some 19, some 20, some 21, some 22, some 23, some 24, some 25, some 26], [], [], [], [], [], [], [], [], [], [some 28, some 29, some 30, some 31, some 32, some 33, some 34, some 35, some 36], [], [], [], [], [], [], [], [], [], [], [none, some 39, some 40, some 41], [], [], [], [some 2, some 38, some 43, some 50], [none, some 44, some 45, none, some 46, some 47, none, some 48, some 49], [], [], [], [], [], [], [some 43, some 51, some 61, some 71], [some 52, some 53, some 54, some 55, some 56, some 57, some 58, some 59, some 60], [], [], [], [], [], [], [], [], [], [some 62, some 63, some 64, some 65, some 66, some 67, some 68, some 69, some 70], [], [], [], [], [], [], [], [], [], [], [some 73], [], [some 75], [], [some 77], [], [some 79], [], [none, none, some 81, some 82, none, some 83, some 84, none, some 85, some 86, none, none, none, none, none, none, some 87, some 88, some 89, some 90, some 91, some 92, some 93, some 94, none, none, some 95, some 96, some 97, some 98, some 99, some 100, some 101], [], [], [], [], [], [], [], [], [], [], [], [], [], [], [], [], [], [], [], [], []]

def K0 (q : Nat) : Nat × Nat := K0l.getD q (7, 0)
def R0 (q j : Nat) : Option Nat := (R0l.getD q []).getD j none
abbrev hX : Type := Nat × (Nat → Nat → Option Nat)
def hR (x : hX) (q j : Nat) : Option Nat := if q < 102 then R0 q j else x.2 q j
/-- the finished world: places 0 .. 101, then texts; the ints in it -/
abbrev hp (x : hX) (I : Nat → Nat → Int32) : sm_H := (102 + x.1, K0, I, hR x)
theorem hl_ {q n : Nat} (h : Nat.blt q 102 = true) : q < 102 + n := Nat.lt_of_lt_of_le (of_decide_eq_true (by simpa [Nat.blt_eq] using h)) (Nat.le_add_right 102 n)
theorem hlt_ {q n : Nat} (h : q < 102) : q < 102 + n := Nat.lt_of_lt_of_le h (Nat.le_add_right 102 n)
def up := @sm_up Int32
theorem hp_si (x : hX) (I : Nat → Nat → Int32) (q j : Nat) (v : Int32) : sm_si (hp x I) q j v = hp x (sm_up I q j v) := rfl
theorem hp_sw (x : hX) (I : Nat → Nat → Int32) (q : Nat) (f : Nat → Int32) : sm_sw (hp x I) q f = hp x (fun q' => if q' = q then f else I q') := rfl
/-- a ridge's place -/
def isR (q : Nat) : Prop := q = 2 ∨ q = 9 ∨ q = 43
theorem isR.lt {q : Nat} (h : isR q) : q < 44 := by unfold isR at h; omega
theorem isR.K {q : Nat} (h : isR q) : (K0 q).1 = 5 := by rcases h with rfl | rfl | rfl <;> rfl
theorem isR.r1 {q : Nat} (h : isR q) {x : hX} : hR x q 1 = some (q + 1) := by rcases h with rfl | rfl | rfl <;> rfl
theorem isR.r2 {q : Nat} (h : isR q) {x : hX} : hR x q 2 = some (q + 2) := by rcases h with rfl | rfl | rfl <;> rfl
theorem isR.r4 {q : Nat} (h : isR q) {x : hX} : hR x q 4 = some (q + 3) := by rcases h with rfl | rfl | rfl <;> rfl
theorem isR.r5 {q : Nat} (h : isR q) {x : hX} : hR x q 5 = some (q + 4) := by rcases h with rfl | rfl | rfl <;> rfl
theorem isR.r7 {q : Nat} (h : isR q) {x : hX} : hR x q 7 = some (q + 5) := by rcases h with rfl | rfl | rfl <;> rfl
theorem isR.r8 {q : Nat} (h : isR q) {x : hX} : hR x q 8 = some (q + 6) := by rcases h with rfl | rfl | rfl <;> rfl
theorem isR.k1 {q : Nat} (h : isR q) : K0 (q + 1) = (0, 6) := by rcases h with rfl | rfl | rfl <;> rfl
theorem isR.k2 {q : Nat} (h : isR q) : K0 (q + 2) = (0, 6) := by rcases h with rfl | rfl | rfl <;> rfl
theorem isR.k3 {q : Nat} (h : isR q) : K0 (q + 3) = (0, 8) := by rcases h with rfl | rfl | rfl <;> rfl
theorem isR.k4 {q : Nat} (h : isR q) : K0 (q + 4) = (0, 8) := by rcases h with rfl | rfl | rfl <;> rfl
theorem isR.k5 {q : Nat} (h : isR q) : K0 (q + 5) = (0, 8) := by rcases h with rfl | rfl | rfl <;> rfl
theorem isR.k6 {q : Nat} (h : isR q) : K0 (q + 6) = (0, 8) := by rcases h with rfl | rfl | rfl <;> rfl
/-- a Nights' place, its ridge's -/
def isN (q r : Nat) : Prop := (q = 16 ∧ r = 2) ∨ (q = 50 ∧ r = 43)
theorem isN.lt {q r : Nat} (h : isN q r) : q < 51 := by unfold isN at h; omega
theorem isN.R {q r : Nat} (h : isN q r) : isR r := by unfold isN at h; unfold isR; omega
theorem isN.K {q r : Nat} (h : isN q r) : (K0 q).1 = 3 := by rcases h with ⟨rfl, rfl⟩ | ⟨rfl, rfl⟩ <;> rfl
theorem isN.r0 {q r : Nat} (h : isN q r) {x : hX} : hR x q 0 = some r := by rcases h with ⟨rfl, rfl⟩ | ⟨rfl, rfl⟩ <;> rfl
theorem isN.r1 {q r : Nat} (h : isN q r) {x : hX} : hR x q 1 = some (q + 1) := by rcases h with ⟨rfl, rfl⟩ | ⟨rfl, rfl⟩ <;> rfl
theorem isN.r2 {q r : Nat} (h : isN q r) {x : hX} : hR x q 2 = some (q + 11) := by rcases h with ⟨rfl, rfl⟩ | ⟨rfl, rfl⟩ <;> rfl
theorem isN.r3 {q r : Nat} (h : isN q r) {x : hX} : hR x q 3 = some (q + 21) := by rcases h with ⟨rfl, rfl⟩ | ⟨rfl, rfl⟩ <;> rfl
theorem isN.k1 {q r : Nat} (h : isN q r) : K0 (q + 1) = (1, 9) := by rcases h with ⟨rfl, rfl⟩ | ⟨rfl, rfl⟩ <;> rfl
theorem isN.k11 {q r : Nat} (h : isN q r) : K0 (q + 11) = (1, 9) := by rcases h with ⟨rfl, rfl⟩ | ⟨rfl, rfl⟩ <;> rfl
theorem isN.k21 {q r : Nat} (h : isN q r) : K0 (q + 21) = (0, 9) := by rcases h with ⟨rfl, rfl⟩ | ⟨rfl, rfl⟩ <;> rfl
theorem isN.ri {q r n : Nat} (h : isN q r) (hn : n < 9) {x : hX} : hR x (q + 1) n = some (q + 2 + n) := by
  rcases h with ⟨rfl, rfl⟩ | ⟨rfl, rfl⟩ <;> (match n, hn with | 0, _ => rfl | 1, _ => rfl | 2, _ => rfl | 3, _ => rfl | 4, _ => rfl | 5, _ => rfl | 6, _ => rfl | 7, _ => rfl | 8, _ => rfl)
theorem isN.rg {q r n : Nat} (h : isN q r) (hn : n < 9) {x : hX} : hR x (q + 11) n = some (q + 12 + n) := by
  rcases h with ⟨rfl, rfl⟩ | ⟨rfl, rfl⟩ <;> (match n, hn with | 0, _ => rfl | 1, _ => rfl | 2, _ => rfl | 3, _ => rfl | 4, _ => rfl | 5, _ => rfl | 6, _ => rfl | 7, _ => rfl | 8, _ => rfl)
theorem isN.ki {q r n : Nat} (h : isN q r) (hn : n < 9) : K0 (q + 2 + n) = (0, 6) := by
  rcases h with ⟨rfl, rfl⟩ | ⟨rfl, rfl⟩ <;> (match n, hn with | 0, _ => rfl | 1, _ => rfl | 2, _ => rfl | 3, _ => rfl | 4, _ => rfl | 5, _ => rfl | 6, _ => rfl | 7, _ => rfl | 8, _ => rfl)
theorem isN.kg {q r n : Nat} (h : isN q r) (hn : n < 9) : K0 (q + 12 + n) = (0, 7) := by
  rcases h with ⟨rfl, rfl⟩ | ⟨rfl, rfl⟩ <;> (match n, hn with | 0, _ => rfl | 1, _ => rfl | 2, _ => rfl | 3, _ => rfl | 4, _ => rfl | 5, _ => rfl | 6, _ => rfl | 7, _ => rfl | 8, _ => rfl)
/-- a sheet's place -/
def isS (q : Nat) : Prop := q = 72 ∨ q = 74 ∨ q = 76 ∨ q = 78
theorem isS.lt {q : Nat} (h : isS q) : q < 79 := by unfold isS at h; omega
theorem isS.K {q : Nat} (h : isS q) : (K0 q).1 = 6 := by rcases h with rfl | rfl | rfl | rfl <;> rfl
theorem isS.r0 {q : Nat} (h : isS q) {x : hX} : hR x q 0 = some (q + 1) := by rcases h with rfl | rfl | rfl | rfl <;> rfl
theorem isS.k1 {q : Nat} (h : isS q) : K0 (q + 1) = (0, 60) := by rcases h with rfl | rfl | rfl | rfl <;> rfl
theorem isS_of {k : Nat} (h : k < 4) : isS (72 + 2 * k) := by unfold isS; omega
theorem isS_r {k : Nat} (h : k < 4) {x : hX} : hR x 1 k = some (72 + 2 * k) := by
  match k, h with
  | 0, _ => rfl
  | 1, _ => rfl
  | 2, _ => rfl
  | 3, _ => rfl
theorem kc_bipush_m100 : sm_cn (.bipush (-100)) 2 = some (.int (-100)) := by decide +kernel
theorem kc_bipush_m10 : sm_cn (.bipush (-10)) 2 = some (.int (-10)) := by decide +kernel
theorem kc_bipush_m9 : sm_cn (.bipush (-9)) 2 = some (.int (-9)) := by decide +kernel
theorem kc_bipush_m4 : sm_cn (.bipush (-4)) 2 = some (.int (-4)) := by decide +kernel
theorem kc_bipush_m3 : sm_cn (.bipush (-3)) 2 = some (.int (-3)) := by decide +kernel
theorem kc_bipush_m2 : sm_cn (.bipush (-2)) 2 = some (.int (-2)) := by decide +kernel
theorem kc_bipush_6 : sm_cn (.bipush 6) 2 = some (.int 6) := by decide +kernel
theorem kc_bipush_7 : sm_cn (.bipush 7) 2 = some (.int 7) := by decide +kernel
theorem kc_bipush_8 : sm_cn (.bipush 8) 2 = some (.int 8) := by decide +kernel
theorem kc_bipush_9 : sm_cn (.bipush 9) 2 = some (.int 9) := by decide +kernel
theorem kc_bipush_10 : sm_cn (.bipush 10) 2 = some (.int 10) := by decide +kernel
theorem kc_bipush_16 : sm_cn (.bipush 16) 2 = some (.int 16) := by decide +kernel
theorem kc_bipush_18 : sm_cn (.bipush 18) 2 = some (.int 18) := by decide +kernel
theorem kc_bipush_31 : sm_cn (.bipush 31) 2 = some (.int 31) := by decide +kernel
theorem kc_bipush_43 : sm_cn (.bipush 43) 2 = some (.int 43) := by decide +kernel
theorem kc_bipush_44 : sm_cn (.bipush 44) 2 = some (.int 44) := by decide +kernel
theorem kc_bipush_48 : sm_cn (.bipush 48) 2 = some (.int 48) := by decide +kernel
theorem kc_bipush_59 : sm_cn (.bipush 59) 2 = some (.int 59) := by decide +kernel
theorem kc_bipush_60 : sm_cn (.bipush 60) 2 = some (.int 60) := by decide +kernel
theorem kc_bipush_62 : sm_cn (.bipush 62) 2 = some (.int 62) := by decide +kernel
theorem kc_bipush_63 : sm_cn (.bipush 63) 2 = some (.int 63) := by decide +kernel
theorem kc_bipush_80 : sm_cn (.bipush 80) 2 = some (.int 80) := by decide +kernel
theorem kc_bipush_99 : sm_cn (.bipush 99) 2 = some (.int 99) := by decide +kernel
theorem kc_bipush_100 : sm_cn (.bipush 100) 2 = some (.int 100) := by decide +kernel
theorem kc_bipush_105 : sm_cn (.bipush 105) 2 = some (.int 105) := by decide +kernel
theorem kc_bipush_108 : sm_cn (.bipush 108) 2 = some (.int 108) := by decide +kernel
theorem kc_bipush_110 : sm_cn (.bipush 110) 2 = some (.int 110) := by decide +kernel
theorem kc_iconst_m1 : sm_cn (.iconst (-1)) 1 = some (.int (-1)) := by decide +kernel
theorem kc_iconst_0 : sm_cn (.iconst 0) 1 = some (.int 0) := by decide +kernel
theorem kc_iconst_1 : sm_cn (.iconst 1) 1 = some (.int 1) := by decide +kernel
theorem kc_iconst_2 : sm_cn (.iconst 2) 1 = some (.int 2) := by decide +kernel
theorem kc_iconst_3 : sm_cn (.iconst 3) 1 = some (.int 3) := by decide +kernel
theorem kc_iconst_4 : sm_cn (.iconst 4) 1 = some (.int 4) := by decide +kernel
theorem kc_iconst_5 : sm_cn (.iconst 5) 1 = some (.int 5) := by decide +kernel
theorem kc_lconst_0 : sm_cn (.lconst 0) 1 = some (.long 0) := by decide +kernel
theorem kc_lconst_1 : sm_cn (.lconst 1) 1 = some (.long 1) := by decide +kernel
theorem kc_sipush_240 : sm_cn (.sipush 240) 3 = some (.int 240) := by decide +kernel
end
