-- ===== PART A: goes FIRST, ahead of the names: the tables' words, and 'selects' of the private methods out of them =====
/-- a private method of a class that the tables say can be made, by its rows of tables_1 -/
def lw_okq (q : MethodName × Nat) : Prop := (q.1.cls ≠ "java/lang/invoke/MethodHandle" ∧ q.1.cls ≠ "java/lang/invoke/VarHandle") ∧ Cond.instantiable q.1.cls q.2 ∈ tables_1 ∧ Cond.privateMethod q.1 ∈ tables_1 ∧ Cond.instanceMethod q.1 ∈ tables_1
theorem lw_p0 : lw_okq (⟨"LeapStones", "remember", "()V"⟩, 8) := ⟨⟨by decide +kernel, by decide +kernel⟩, List.mem_of_getElem? (i := 14) (by decide +kernel), List.mem_of_getElem? (i := 238) (by decide +kernel), List.mem_of_getElem? (i := 239) (by decide +kernel)⟩
theorem lw_p1 : lw_okq (⟨"LeapStones$Floods", "at", "(I)LLeapStones$River;"⟩, 2) := ⟨⟨by decide +kernel, by decide +kernel⟩, List.mem_of_getElem? (i := 71) (by decide +kernel), List.mem_of_getElem? (i := 281) (by decide +kernel), List.mem_of_getElem? (i := 282) (by decide +kernel)⟩
theorem lw_p2 : lw_okq (⟨"LeapStones$Crossing", "highestKey", "()I"⟩, 12) := ⟨⟨by decide +kernel, by decide +kernel⟩, List.mem_of_getElem? (i := 103) (by decide +kernel), List.mem_of_getElem? (i := 309) (by decide +kernel), List.mem_of_getElem? (i := 310) (by decide +kernel)⟩
theorem lw_p3 : lw_okq (⟨"LeapStones$Crossing", "meet", "(II)V"⟩, 12) := ⟨⟨by decide +kernel, by decide +kernel⟩, List.mem_of_getElem? (i := 103) (by decide +kernel), List.mem_of_getElem? (i := 418) (by decide +kernel), List.mem_of_getElem? (i := 419) (by decide +kernel)⟩
theorem lw_p4 : lw_okq (⟨"LeapStones$Crossing", "nextToLeap", "(I)I"⟩, 12) := ⟨⟨by decide +kernel, by decide +kernel⟩, List.mem_of_getElem? (i := 103) (by decide +kernel), List.mem_of_getElem? (i := 509) (by decide +kernel), List.mem_of_getElem? (i := 510) (by decide +kernel)⟩
theorem lw_p5 : lw_okq (⟨"LeapStones$Path", "looksOneByOne", "(II)I"⟩, 3) := ⟨⟨by decide +kernel, by decide +kernel⟩, List.mem_of_getElem? (i := 45) (by decide +kernel), List.mem_of_getElem? (i := 527) (by decide +kernel), List.mem_of_getElem? (i := 528) (by decide +kernel)⟩
theorem lw_p6 : lw_okq (⟨"LeapStones$Path", "looksDoubling", "(II)I"⟩, 3) := ⟨⟨by decide +kernel, by decide +kernel⟩, List.mem_of_getElem? (i := 45) (by decide +kernel), List.mem_of_getElem? (i := 531) (by decide +kernel), List.mem_of_getElem? (i := 532) (by decide +kernel)⟩
theorem lw_p7 : lw_okq (⟨"LeapStones$Path", "looksHalving", "(III)I"⟩, 3) := ⟨⟨by decide +kernel, by decide +kernel⟩, List.mem_of_getElem? (i := 45) (by decide +kernel), List.mem_of_getElem? (i := 535) (by decide +kernel), List.mem_of_getElem? (i := 536) (by decide +kernel)⟩
theorem lw_p8 : lw_okq (⟨"LeapStones$Crossing", "rowsTogether", "()I"⟩, 12) := ⟨⟨by decide +kernel, by decide +kernel⟩, List.mem_of_getElem? (i := 103) (by decide +kernel), List.mem_of_getElem? (i := 582) (by decide +kernel), List.mem_of_getElem? (i := 583) (by decide +kernel)⟩
theorem lw_p9 : lw_okq (⟨"LeapStones$River", "isShared", "(III)Z"⟩, 3) := ⟨⟨by decide +kernel, by decide +kernel⟩, List.mem_of_getElem? (i := 39) (by decide +kernel), List.mem_of_getElem? (i := 631) (by decide +kernel), List.mem_of_getElem? (i := 632) (by decide +kernel)⟩
theorem lw_p10 : lw_okq (⟨"LeapStones", "tryOut", "(II)V"⟩, 8) := ⟨⟨by decide +kernel, by decide +kernel⟩, List.mem_of_getElem? (i := 14) (by decide +kernel), List.mem_of_getElem? (i := 658) (by decide +kernel), List.mem_of_getElem? (i := 659) (by decide +kernel)⟩
theorem lw_p11 : lw_okq (⟨"LeapStones$Pad", "readWholeOrder", "()Z"⟩, 8) := ⟨⟨by decide +kernel, by decide +kernel⟩, List.mem_of_getElem? (i := 166) (by decide +kernel), List.mem_of_getElem? (i := 718) (by decide +kernel), List.mem_of_getElem? (i := 719) (by decide +kernel)⟩
theorem lw_p12 : lw_okq (⟨"LeapStones$Pad", "next", "()C"⟩, 8) := ⟨⟨by decide +kernel, by decide +kernel⟩, List.mem_of_getElem? (i := 166) (by decide +kernel), List.mem_of_getElem? (i := 726) (by decide +kernel), List.mem_of_getElem? (i := 727) (by decide +kernel)⟩
theorem lw_p13 : lw_okq (⟨"LeapStones$Pad", "readFlood", "()Z"⟩, 8) := ⟨⟨by decide +kernel, by decide +kernel⟩, List.mem_of_getElem? (i := 166) (by decide +kernel), List.mem_of_getElem? (i := 730) (by decide +kernel), List.mem_of_getElem? (i := 731) (by decide +kernel)⟩
theorem lw_p14 : lw_okq (⟨"LeapStones$Pad", "readWalker", "()Z"⟩, 8) := ⟨⟨by decide +kernel, by decide +kernel⟩, List.mem_of_getElem? (i := 166) (by decide +kernel), List.mem_of_getElem? (i := 738) (by decide +kernel), List.mem_of_getElem? (i := 739) (by decide +kernel)⟩
theorem lw_p15 : lw_okq (⟨"LeapStones$Pad", "readKey", "()I"⟩, 8) := ⟨⟨by decide +kernel, by decide +kernel⟩, List.mem_of_getElem? (i := 166) (by decide +kernel), List.mem_of_getElem? (i := 743) (by decide +kernel), List.mem_of_getElem? (i := 744) (by decide +kernel)⟩
def lw_privs_1 : List (MethodName × Nat) := [(⟨"LeapStones", "remember", "()V"⟩, 8), (⟨"LeapStones$Floods", "at", "(I)LLeapStones$River;"⟩, 2), (⟨"LeapStones$Crossing", "highestKey", "()I"⟩, 12), (⟨"LeapStones$Crossing", "meet", "(II)V"⟩, 12), (⟨"LeapStones$Crossing", "nextToLeap", "(I)I"⟩, 12), (⟨"LeapStones$Path", "looksOneByOne", "(II)I"⟩, 3), (⟨"LeapStones$Path", "looksDoubling", "(II)I"⟩, 3), (⟨"LeapStones$Path", "looksHalving", "(III)I"⟩, 3), (⟨"LeapStones$Crossing", "rowsTogether", "()I"⟩, 12), (⟨"LeapStones$River", "isShared", "(III)Z"⟩, 3), (⟨"LeapStones", "tryOut", "(II)V"⟩, 8), (⟨"LeapStones$Pad", "readWholeOrder", "()Z"⟩, 8), (⟨"LeapStones$Pad", "next", "()C"⟩, 8), (⟨"LeapStones$Pad", "readFlood", "()Z"⟩, 8), (⟨"LeapStones$Pad", "readWalker", "()Z"⟩, 8), (⟨"LeapStones$Pad", "readKey", "()I"⟩, 8)]
theorem lw_r1 : ∀ q ∈ lw_privs_1, lw_okq q := List.forall_mem_cons.mpr ⟨lw_p0, List.forall_mem_cons.mpr ⟨lw_p1, List.forall_mem_cons.mpr ⟨lw_p2, List.forall_mem_cons.mpr ⟨lw_p3, List.forall_mem_cons.mpr ⟨lw_p4, List.forall_mem_cons.mpr ⟨lw_p5, List.forall_mem_cons.mpr ⟨lw_p6, List.forall_mem_cons.mpr ⟨lw_p7, List.forall_mem_cons.mpr ⟨lw_p8, List.forall_mem_cons.mpr ⟨lw_p9, List.forall_mem_cons.mpr ⟨lw_p10, List.forall_mem_cons.mpr ⟨lw_p11, List.forall_mem_cons.mpr ⟨lw_p12, List.forall_mem_cons.mpr ⟨lw_p13, List.forall_mem_cons.mpr ⟨lw_p14, List.forall_mem_cons.mpr ⟨lw_p15, fun _ h => absurd h List.not_mem_nil⟩⟩⟩⟩⟩⟩⟩⟩⟩⟩⟩⟩⟩⟩⟩⟩
theorem lw_p16 : lw_okq (⟨"LeapStones$Pad", "readRepeats", "()Z"⟩, 8) := ⟨⟨by decide +kernel, by decide +kernel⟩, List.mem_of_getElem? (i := 166) (by decide +kernel), List.mem_of_getElem? (i := 751) (by decide +kernel), List.mem_of_getElem? (i := 752) (by decide +kernel)⟩
theorem lw_p17 : lw_okq (⟨"LeapStones", "carryOrder", "()Z"⟩, 8) := ⟨⟨by decide +kernel, by decide +kernel⟩, List.mem_of_getElem? (i := 14) (by decide +kernel), List.mem_of_getElem? (i := 761) (by decide +kernel), List.mem_of_getElem? (i := 762) (by decide +kernel)⟩
theorem lw_p18 : lw_okq (⟨"LeapStones", "carryStones", "()Z"⟩, 8) := ⟨⟨by decide +kernel, by decide +kernel⟩, List.mem_of_getElem? (i := 14) (by decide +kernel), List.mem_of_getElem? (i := 781) (by decide +kernel), List.mem_of_getElem? (i := 782) (by decide +kernel)⟩
theorem lw_p19 : lw_okq (⟨"LeapStones", "layRange", "(IIII)Z"⟩, 8) := ⟨⟨by decide +kernel, by decide +kernel⟩, List.mem_of_getElem? (i := 14) (by decide +kernel), List.mem_of_getElem? (i := 790) (by decide +kernel), List.mem_of_getElem? (i := 791) (by decide +kernel)⟩
theorem lw_p20 : lw_okq (⟨"LeapStonesModel", "keep", "()V"⟩, 17) := ⟨⟨by decide +kernel, by decide +kernel⟩, List.mem_of_getElem? (i := 812) (by decide +kernel), List.mem_of_getElem? (i := 874) (by decide +kernel), List.mem_of_getElem? (i := 875) (by decide +kernel)⟩
theorem lw_p21 : lw_okq (⟨"LeapStonesModel", "beginRun", "()V"⟩, 17) := ⟨⟨by decide +kernel, by decide +kernel⟩, List.mem_of_getElem? (i := 812) (by decide +kernel), List.mem_of_getElem? (i := 878) (by decide +kernel), List.mem_of_getElem? (i := 879) (by decide +kernel)⟩
theorem lw_p22 : lw_okq (⟨"LeapStonesModel", "firstFrom", "(II)I"⟩, 17) := ⟨⟨by decide +kernel, by decide +kernel⟩, List.mem_of_getElem? (i := 812) (by decide +kernel), List.mem_of_getElem? (i := 882) (by decide +kernel), List.mem_of_getElem? (i := 883) (by decide +kernel)⟩
theorem lw_p23 : lw_okq (⟨"LeapStonesModel", "repeats", "(II)I"⟩, 17) := ⟨⟨by decide +kernel, by decide +kernel⟩, List.mem_of_getElem? (i := 812) (by decide +kernel), List.mem_of_getElem? (i := 886) (by decide +kernel), List.mem_of_getElem? (i := 887) (by decide +kernel)⟩
theorem lw_p24 : lw_okq (⟨"LeapStonesModel", "inTurn", "(I)I"⟩, 17) := ⟨⟨by decide +kernel, by decide +kernel⟩, List.mem_of_getElem? (i := 812) (by decide +kernel), List.mem_of_getElem? (i := 890) (by decide +kernel), List.mem_of_getElem? (i := 891) (by decide +kernel)⟩
theorem lw_p25 : lw_okq (⟨"LeapStonesModel", "lookRound", "()V"⟩, 17) := ⟨⟨by decide +kernel, by decide +kernel⟩, List.mem_of_getElem? (i := 812) (by decide +kernel), List.mem_of_getElem? (i := 894) (by decide +kernel), List.mem_of_getElem? (i := 895) (by decide +kernel)⟩
theorem lw_p26 : lw_okq (⟨"LeapStonesModel", "overIfSo", "()V"⟩, 17) := ⟨⟨by decide +kernel, by decide +kernel⟩, List.mem_of_getElem? (i := 812) (by decide +kernel), List.mem_of_getElem? (i := 898) (by decide +kernel), List.mem_of_getElem? (i := 899) (by decide +kernel)⟩
theorem lw_p27 : lw_okq (⟨"LeapStonesModel", "stands", "(I)I"⟩, 17) := ⟨⟨by decide +kernel, by decide +kernel⟩, List.mem_of_getElem? (i := 812) (by decide +kernel), List.mem_of_getElem? (i := 902) (by decide +kernel), List.mem_of_getElem? (i := 903) (by decide +kernel)⟩
theorem lw_p28 : lw_okq (⟨"LeapStonesModel", "rowsAt", "(I)I"⟩, 17) := ⟨⟨by decide +kernel, by decide +kernel⟩, List.mem_of_getElem? (i := 812) (by decide +kernel), List.mem_of_getElem? (i := 906) (by decide +kernel), List.mem_of_getElem? (i := 907) (by decide +kernel)⟩
theorem lw_p29 : lw_okq (⟨"LeapStonesModel", "greatest", "()I"⟩, 17) := ⟨⟨by decide +kernel, by decide +kernel⟩, List.mem_of_getElem? (i := 812) (by decide +kernel), List.mem_of_getElem? (i := 910) (by decide +kernel), List.mem_of_getElem? (i := 911) (by decide +kernel)⟩
theorem lw_p30 : lw_okq (⟨"LeapStonesModel", "tryLeap", "(Z)I"⟩, 17) := ⟨⟨by decide +kernel, by decide +kernel⟩, List.mem_of_getElem? (i := 812) (by decide +kernel), List.mem_of_getElem? (i := 918) (by decide +kernel), List.mem_of_getElem? (i := 919) (by decide +kernel)⟩
theorem lw_p31 : lw_okq (⟨"LeapStonesModel", "keepIf", "(Z)V"⟩, 17) := ⟨⟨by decide +kernel, by decide +kernel⟩, List.mem_of_getElem? (i := 812) (by decide +kernel), List.mem_of_getElem? (i := 922) (by decide +kernel), List.mem_of_getElem? (i := 923) (by decide +kernel)⟩
def lw_privs_2 : List (MethodName × Nat) := [(⟨"LeapStones$Pad", "readRepeats", "()Z"⟩, 8), (⟨"LeapStones", "carryOrder", "()Z"⟩, 8), (⟨"LeapStones", "carryStones", "()Z"⟩, 8), (⟨"LeapStones", "layRange", "(IIII)Z"⟩, 8), (⟨"LeapStonesModel", "keep", "()V"⟩, 17), (⟨"LeapStonesModel", "beginRun", "()V"⟩, 17), (⟨"LeapStonesModel", "firstFrom", "(II)I"⟩, 17), (⟨"LeapStonesModel", "repeats", "(II)I"⟩, 17), (⟨"LeapStonesModel", "inTurn", "(I)I"⟩, 17), (⟨"LeapStonesModel", "lookRound", "()V"⟩, 17), (⟨"LeapStonesModel", "overIfSo", "()V"⟩, 17), (⟨"LeapStonesModel", "stands", "(I)I"⟩, 17), (⟨"LeapStonesModel", "rowsAt", "(I)I"⟩, 17), (⟨"LeapStonesModel", "greatest", "()I"⟩, 17), (⟨"LeapStonesModel", "tryLeap", "(Z)I"⟩, 17), (⟨"LeapStonesModel", "keepIf", "(Z)V"⟩, 17)]
theorem lw_r2 : ∀ q ∈ lw_privs_2, lw_okq q := List.forall_mem_cons.mpr ⟨lw_p16, List.forall_mem_cons.mpr ⟨lw_p17, List.forall_mem_cons.mpr ⟨lw_p18, List.forall_mem_cons.mpr ⟨lw_p19, List.forall_mem_cons.mpr ⟨lw_p20, List.forall_mem_cons.mpr ⟨lw_p21, List.forall_mem_cons.mpr ⟨lw_p22, List.forall_mem_cons.mpr ⟨lw_p23, List.forall_mem_cons.mpr ⟨lw_p24, List.forall_mem_cons.mpr ⟨lw_p25, List.forall_mem_cons.mpr ⟨lw_p26, List.forall_mem_cons.mpr ⟨lw_p27, List.forall_mem_cons.mpr ⟨lw_p28, List.forall_mem_cons.mpr ⟨lw_p29, List.forall_mem_cons.mpr ⟨lw_p30, List.forall_mem_cons.mpr ⟨lw_p31, fun _ h => absurd h List.not_mem_nil⟩⟩⟩⟩⟩⟩⟩⟩⟩⟩⟩⟩⟩⟩⟩⟩
theorem lw_p32 : lw_okq (⟨"LeapStonesModel", "makeLeap", "()I"⟩, 17) := ⟨⟨by decide +kernel, by decide +kernel⟩, List.mem_of_getElem? (i := 812) (by decide +kernel), List.mem_of_getElem? (i := 926) (by decide +kernel), List.mem_of_getElem? (i := 927) (by decide +kernel)⟩
theorem lw_p33 : lw_okq (⟨"LeapStonesModel", "placeInTurn", "(I)I"⟩, 17) := ⟨⟨by decide +kernel, by decide +kernel⟩, List.mem_of_getElem? (i := 812) (by decide +kernel), List.mem_of_getElem? (i := 930) (by decide +kernel), List.mem_of_getElem? (i := 931) (by decide +kernel)⟩
theorem lw_p34 : lw_okq (⟨"LeapStonesModel", "looksOf", "(I)I"⟩, 17) := ⟨⟨by decide +kernel, by decide +kernel⟩, List.mem_of_getElem? (i := 812) (by decide +kernel), List.mem_of_getElem? (i := 934) (by decide +kernel), List.mem_of_getElem? (i := 935) (by decide +kernel)⟩
theorem lw_p35 : lw_okq (⟨"LeapStonesModel", "layKeys", "(I)V"⟩, 17) := ⟨⟨by decide +kernel, by decide +kernel⟩, List.mem_of_getElem? (i := 812) (by decide +kernel), List.mem_of_getElem? (i := 938) (by decide +kernel), List.mem_of_getElem? (i := 939) (by decide +kernel)⟩
theorem lw_p36 : lw_okq (⟨"LeapStonesModel", "walkOn", "(I)V"⟩, 17) := ⟨⟨by decide +kernel, by decide +kernel⟩, List.mem_of_getElem? (i := 812) (by decide +kernel), List.mem_of_getElem? (i := 942) (by decide +kernel), List.mem_of_getElem? (i := 943) (by decide +kernel)⟩
theorem lw_p37 : lw_okq (⟨"LeapStonesModel", "isShort", "(I)Z"⟩, 17) := ⟨⟨by decide +kernel, by decide +kernel⟩, List.mem_of_getElem? (i := 812) (by decide +kernel), List.mem_of_getElem? (i := 946) (by decide +kernel), List.mem_of_getElem? (i := 947) (by decide +kernel)⟩
theorem lw_p38 : lw_okq (⟨"LeapStonesModel", "doubleOn", "(I)V"⟩, 17) := ⟨⟨by decide +kernel, by decide +kernel⟩, List.mem_of_getElem? (i := 812) (by decide +kernel), List.mem_of_getElem? (i := 950) (by decide +kernel), List.mem_of_getElem? (i := 951) (by decide +kernel)⟩
theorem lw_p39 : lw_okq (⟨"LeapStonesModel", "halve", "(II)V"⟩, 17) := ⟨⟨by decide +kernel, by decide +kernel⟩, List.mem_of_getElem? (i := 812) (by decide +kernel), List.mem_of_getElem? (i := 954) (by decide +kernel), List.mem_of_getElem? (i := 955) (by decide +kernel)⟩
theorem lw_p40 : lw_okq (⟨"LeapStonesModel", "leapOn", "()I"⟩, 17) := ⟨⟨by decide +kernel, by decide +kernel⟩, List.mem_of_getElem? (i := 812) (by decide +kernel), List.mem_of_getElem? (i := 962) (by decide +kernel), List.mem_of_getElem? (i := 963) (by decide +kernel)⟩
theorem lw_p41 : lw_okq (⟨"LeapStonesModel", "tryStone", "(III)I"⟩, 17) := ⟨⟨by decide +kernel, by decide +kernel⟩, List.mem_of_getElem? (i := 812) (by decide +kernel), List.mem_of_getElem? (i := 977) (by decide +kernel), List.mem_of_getElem? (i := 978) (by decide +kernel)⟩
theorem lw_p42 : lw_okq (⟨"LeapStonesModel", "stonesOf", "(I)I"⟩, 17) := ⟨⟨by decide +kernel, by decide +kernel⟩, List.mem_of_getElem? (i := 812) (by decide +kernel), List.mem_of_getElem? (i := 987) (by decide +kernel), List.mem_of_getElem? (i := 988) (by decide +kernel)⟩
theorem lw_p43 : lw_okq (⟨"LeapStonesModel", "lay", "(III)V"⟩, 17) := ⟨⟨by decide +kernel, by decide +kernel⟩, List.mem_of_getElem? (i := 812) (by decide +kernel), List.mem_of_getElem? (i := 991) (by decide +kernel), List.mem_of_getElem? (i := 992) (by decide +kernel)⟩
theorem lw_p44 : lw_okq (⟨"LeapStonesModel", "tryFlood", "(IIIZ)I"⟩, 17) := ⟨⟨by decide +kernel, by decide +kernel⟩, List.mem_of_getElem? (i := 812) (by decide +kernel), List.mem_of_getElem? (i := 999) (by decide +kernel), List.mem_of_getElem? (i := 1000) (by decide +kernel)⟩
theorem lw_p45 : lw_okq (⟨"LeapStonesModel", "dropOldest", "()V"⟩, 17) := ⟨⟨by decide +kernel, by decide +kernel⟩, List.mem_of_getElem? (i := 812) (by decide +kernel), List.mem_of_getElem? (i := 1006) (by decide +kernel), List.mem_of_getElem? (i := 1007) (by decide +kernel)⟩
theorem lw_p46 : lw_okq (⟨"LeapStonesModel", "take", "(III)I"⟩, 17) := ⟨⟨by decide +kernel, by decide +kernel⟩, List.mem_of_getElem? (i := 812) (by decide +kernel), List.mem_of_getElem? (i := 1010) (by decide +kernel), List.mem_of_getElem? (i := 1011) (by decide +kernel)⟩
theorem lw_p47 : lw_okq (⟨"LeapStonesModel", "slip", "(I)V"⟩, 17) := ⟨⟨by decide +kernel, by decide +kernel⟩, List.mem_of_getElem? (i := 812) (by decide +kernel), List.mem_of_getElem? (i := 1014) (by decide +kernel), List.mem_of_getElem? (i := 1015) (by decide +kernel)⟩
def lw_privs_3 : List (MethodName × Nat) := [(⟨"LeapStonesModel", "makeLeap", "()I"⟩, 17), (⟨"LeapStonesModel", "placeInTurn", "(I)I"⟩, 17), (⟨"LeapStonesModel", "looksOf", "(I)I"⟩, 17), (⟨"LeapStonesModel", "layKeys", "(I)V"⟩, 17), (⟨"LeapStonesModel", "walkOn", "(I)V"⟩, 17), (⟨"LeapStonesModel", "isShort", "(I)Z"⟩, 17), (⟨"LeapStonesModel", "doubleOn", "(I)V"⟩, 17), (⟨"LeapStonesModel", "halve", "(II)V"⟩, 17), (⟨"LeapStonesModel", "leapOn", "()I"⟩, 17), (⟨"LeapStonesModel", "tryStone", "(III)I"⟩, 17), (⟨"LeapStonesModel", "stonesOf", "(I)I"⟩, 17), (⟨"LeapStonesModel", "lay", "(III)V"⟩, 17), (⟨"LeapStonesModel", "tryFlood", "(IIIZ)I"⟩, 17), (⟨"LeapStonesModel", "dropOldest", "()V"⟩, 17), (⟨"LeapStonesModel", "take", "(III)I"⟩, 17), (⟨"LeapStonesModel", "slip", "(I)V"⟩, 17)]
theorem lw_r3 : ∀ q ∈ lw_privs_3, lw_okq q := List.forall_mem_cons.mpr ⟨lw_p32, List.forall_mem_cons.mpr ⟨lw_p33, List.forall_mem_cons.mpr ⟨lw_p34, List.forall_mem_cons.mpr ⟨lw_p35, List.forall_mem_cons.mpr ⟨lw_p36, List.forall_mem_cons.mpr ⟨lw_p37, List.forall_mem_cons.mpr ⟨lw_p38, List.forall_mem_cons.mpr ⟨lw_p39, List.forall_mem_cons.mpr ⟨lw_p40, List.forall_mem_cons.mpr ⟨lw_p41, List.forall_mem_cons.mpr ⟨lw_p42, List.forall_mem_cons.mpr ⟨lw_p43, List.forall_mem_cons.mpr ⟨lw_p44, List.forall_mem_cons.mpr ⟨lw_p45, List.forall_mem_cons.mpr ⟨lw_p46, List.forall_mem_cons.mpr ⟨lw_p47, fun _ h => absurd h List.not_mem_nil⟩⟩⟩⟩⟩⟩⟩⟩⟩⟩⟩⟩⟩⟩⟩⟩
theorem lw_p48 : lw_okq (⟨"LeapStonesModel", "tryDry", "(Z)I"⟩, 17) := ⟨⟨by decide +kernel, by decide +kernel⟩, List.mem_of_getElem? (i := 812) (by decide +kernel), List.mem_of_getElem? (i := 1022) (by decide +kernel), List.mem_of_getElem? (i := 1023) (by decide +kernel)⟩
theorem lw_p49 : lw_okq (⟨"LeapStonesModel", "wouldBeTooMany", "(I)Z"⟩, 17) := ⟨⟨by decide +kernel, by decide +kernel⟩, List.mem_of_getElem? (i := 812) (by decide +kernel), List.mem_of_getElem? (i := 1026) (by decide +kernel), List.mem_of_getElem? (i := 1027) (by decide +kernel)⟩
theorem lw_p50 : lw_okq (⟨"LeapStonesModel", "taken", "(II)I"⟩, 17) := ⟨⟨by decide +kernel, by decide +kernel⟩, List.mem_of_getElem? (i := 812) (by decide +kernel), List.mem_of_getElem? (i := 1030) (by decide +kernel), List.mem_of_getElem? (i := 1031) (by decide +kernel)⟩
theorem lw_p51 : lw_okq (⟨"LeapStonesModel", "giveBack", "(I)I"⟩, 17) := ⟨⟨by decide +kernel, by decide +kernel⟩, List.mem_of_getElem? (i := 812) (by decide +kernel), List.mem_of_getElem? (i := 1034) (by decide +kernel), List.mem_of_getElem? (i := 1035) (by decide +kernel)⟩
theorem lw_p52 : lw_okq (⟨"LeapStonesModel", "ofRunning", "(II)I"⟩, 17) := ⟨⟨by decide +kernel, by decide +kernel⟩, List.mem_of_getElem? (i := 812) (by decide +kernel), List.mem_of_getElem? (i := 1042) (by decide +kernel), List.mem_of_getElem? (i := 1043) (by decide +kernel)⟩
theorem lw_p53 : lw_okq (⟨"LeapStonesModel", "placeOf", "(I)I"⟩, 17) := ⟨⟨by decide +kernel, by decide +kernel⟩, List.mem_of_getElem? (i := 812) (by decide +kernel), List.mem_of_getElem? (i := 1046) (by decide +kernel), List.mem_of_getElem? (i := 1047) (by decide +kernel)⟩
theorem lw_p54 : lw_okq (⟨"LeapStonesModel", "meetings", "()I"⟩, 17) := ⟨⟨by decide +kernel, by decide +kernel⟩, List.mem_of_getElem? (i := 812) (by decide +kernel), List.mem_of_getElem? (i := 1058) (by decide +kernel), List.mem_of_getElem? (i := 1059) (by decide +kernel)⟩
theorem lw_p55 : lw_okq (⟨"LeapStonesModel", "metRows", "()I"⟩, 17) := ⟨⟨by decide +kernel, by decide +kernel⟩, List.mem_of_getElem? (i := 812) (by decide +kernel), List.mem_of_getElem? (i := 1062) (by decide +kernel), List.mem_of_getElem? (i := 1063) (by decide +kernel)⟩
theorem lw_p56 : lw_okq (⟨"LeapStonesModel", "sumOf", "(I)I"⟩, 17) := ⟨⟨by decide +kernel, by decide +kernel⟩, List.mem_of_getElem? (i := 812) (by decide +kernel), List.mem_of_getElem? (i := 1066) (by decide +kernel), List.mem_of_getElem? (i := 1067) (by decide +kernel)⟩
theorem lw_p57 : lw_okq (⟨"LeapStonesModel", "rowsFrom", "(II)I"⟩, 17) := ⟨⟨by decide +kernel, by decide +kernel⟩, List.mem_of_getElem? (i := 812) (by decide +kernel), List.mem_of_getElem? (i := 1082) (by decide +kernel), List.mem_of_getElem? (i := 1083) (by decide +kernel)⟩
theorem lw_p58 : lw_okq (⟨"LeapStonesModel", "wouldTake", "(III)I"⟩, 17) := ⟨⟨by decide +kernel, by decide +kernel⟩, List.mem_of_getElem? (i := 812) (by decide +kernel), List.mem_of_getElem? (i := 1090) (by decide +kernel), List.mem_of_getElem? (i := 1091) (by decide +kernel)⟩
theorem lw_p59 : lw_okq (⟨"LeapStonesModel", "layAside", "()V"⟩, 17) := ⟨⟨by decide +kernel, by decide +kernel⟩, List.mem_of_getElem? (i := 812) (by decide +kernel), List.mem_of_getElem? (i := 1094) (by decide +kernel), List.mem_of_getElem? (i := 1095) (by decide +kernel)⟩
theorem lw_p60 : lw_okq (⟨"LeapStonesModel", "layBack", "()V"⟩, 17) := ⟨⟨by decide +kernel, by decide +kernel⟩, List.mem_of_getElem? (i := 812) (by decide +kernel), List.mem_of_getElem? (i := 1098) (by decide +kernel), List.mem_of_getElem? (i := 1099) (by decide +kernel)⟩
theorem lw_p61 : lw_okq (⟨"LeapStonesModel", "takeOrder", "()V"⟩, 17) := ⟨⟨by decide +kernel, by decide +kernel⟩, List.mem_of_getElem? (i := 812) (by decide +kernel), List.mem_of_getElem? (i := 1123) (by decide +kernel), List.mem_of_getElem? (i := 1124) (by decide +kernel)⟩
theorem lw_p62 : lw_okq (⟨"LeapStonesModel", "next", "()I"⟩, 17) := ⟨⟨by decide +kernel, by decide +kernel⟩, List.mem_of_getElem? (i := 812) (by decide +kernel), List.mem_of_getElem? (i := 1127) (by decide +kernel), List.mem_of_getElem? (i := 1128) (by decide +kernel)⟩
theorem lw_p63 : lw_okq (⟨"LeapStonesModel", "takeFlood", "()V"⟩, 17) := ⟨⟨by decide +kernel, by decide +kernel⟩, List.mem_of_getElem? (i := 812) (by decide +kernel), List.mem_of_getElem? (i := 1131) (by decide +kernel), List.mem_of_getElem? (i := 1132) (by decide +kernel)⟩
def lw_privs_4 : List (MethodName × Nat) := [(⟨"LeapStonesModel", "tryDry", "(Z)I"⟩, 17), (⟨"LeapStonesModel", "wouldBeTooMany", "(I)Z"⟩, 17), (⟨"LeapStonesModel", "taken", "(II)I"⟩, 17), (⟨"LeapStonesModel", "giveBack", "(I)I"⟩, 17), (⟨"LeapStonesModel", "ofRunning", "(II)I"⟩, 17), (⟨"LeapStonesModel", "placeOf", "(I)I"⟩, 17), (⟨"LeapStonesModel", "meetings", "()I"⟩, 17), (⟨"LeapStonesModel", "metRows", "()I"⟩, 17), (⟨"LeapStonesModel", "sumOf", "(I)I"⟩, 17), (⟨"LeapStonesModel", "rowsFrom", "(II)I"⟩, 17), (⟨"LeapStonesModel", "wouldTake", "(III)I"⟩, 17), (⟨"LeapStonesModel", "layAside", "()V"⟩, 17), (⟨"LeapStonesModel", "layBack", "()V"⟩, 17), (⟨"LeapStonesModel", "takeOrder", "()V"⟩, 17), (⟨"LeapStonesModel", "next", "()I"⟩, 17), (⟨"LeapStonesModel", "takeFlood", "()V"⟩, 17)]
theorem lw_r4 : ∀ q ∈ lw_privs_4, lw_okq q := List.forall_mem_cons.mpr ⟨lw_p48, List.forall_mem_cons.mpr ⟨lw_p49, List.forall_mem_cons.mpr ⟨lw_p50, List.forall_mem_cons.mpr ⟨lw_p51, List.forall_mem_cons.mpr ⟨lw_p52, List.forall_mem_cons.mpr ⟨lw_p53, List.forall_mem_cons.mpr ⟨lw_p54, List.forall_mem_cons.mpr ⟨lw_p55, List.forall_mem_cons.mpr ⟨lw_p56, List.forall_mem_cons.mpr ⟨lw_p57, List.forall_mem_cons.mpr ⟨lw_p58, List.forall_mem_cons.mpr ⟨lw_p59, List.forall_mem_cons.mpr ⟨lw_p60, List.forall_mem_cons.mpr ⟨lw_p61, List.forall_mem_cons.mpr ⟨lw_p62, List.forall_mem_cons.mpr ⟨lw_p63, fun _ h => absurd h List.not_mem_nil⟩⟩⟩⟩⟩⟩⟩⟩⟩⟩⟩⟩⟩⟩⟩⟩
theorem lw_p64 : lw_okq (⟨"LeapStonesModel", "takesIf", "(I)Z"⟩, 17) := ⟨⟨by decide +kernel, by decide +kernel⟩, List.mem_of_getElem? (i := 812) (by decide +kernel), List.mem_of_getElem? (i := 1135) (by decide +kernel), List.mem_of_getElem? (i := 1136) (by decide +kernel)⟩
theorem lw_p65 : lw_okq (⟨"LeapStonesModel", "takeDigit", "(II)I"⟩, 17) := ⟨⟨by decide +kernel, by decide +kernel⟩, List.mem_of_getElem? (i := 812) (by decide +kernel), List.mem_of_getElem? (i := 1139) (by decide +kernel), List.mem_of_getElem? (i := 1140) (by decide +kernel)⟩
theorem lw_p66 : lw_okq (⟨"LeapStonesModel", "takeSign", "(I)V"⟩, 17) := ⟨⟨by decide +kernel, by decide +kernel⟩, List.mem_of_getElem? (i := 812) (by decide +kernel), List.mem_of_getElem? (i := 1143) (by decide +kernel), List.mem_of_getElem? (i := 1144) (by decide +kernel)⟩
theorem lw_p67 : lw_okq (⟨"LeapStonesModel", "takeKey", "()I"⟩, 17) := ⟨⟨by decide +kernel, by decide +kernel⟩, List.mem_of_getElem? (i := 812) (by decide +kernel), List.mem_of_getElem? (i := 1147) (by decide +kernel), List.mem_of_getElem? (i := 1148) (by decide +kernel)⟩
theorem lw_p68 : lw_okq (⟨"LeapStonesModel", "enter", "(IIIII)V"⟩, 17) := ⟨⟨by decide +kernel, by decide +kernel⟩, List.mem_of_getElem? (i := 812) (by decide +kernel), List.mem_of_getElem? (i := 1151) (by decide +kernel), List.mem_of_getElem? (i := 1152) (by decide +kernel)⟩
theorem lw_p69 : lw_okq (⟨"LeapStonesModel", "takeLaying", "()V"⟩, 17) := ⟨⟨by decide +kernel, by decide +kernel⟩, List.mem_of_getElem? (i := 812) (by decide +kernel), List.mem_of_getElem? (i := 1155) (by decide +kernel), List.mem_of_getElem? (i := 1156) (by decide +kernel)⟩
theorem lw_p70 : lw_okq (⟨"LeapStonesModel", "takeStones", "(I)V"⟩, 17) := ⟨⟨by decide +kernel, by decide +kernel⟩, List.mem_of_getElem? (i := 812) (by decide +kernel), List.mem_of_getElem? (i := 1159) (by decide +kernel), List.mem_of_getElem? (i := 1160) (by decide +kernel)⟩
theorem lw_p71 : lw_okq (⟨"LeapStonesModel", "carry", "(I)I"⟩, 17) := ⟨⟨by decide +kernel, by decide +kernel⟩, List.mem_of_getElem? (i := 812) (by decide +kernel), List.mem_of_getElem? (i := 1168) (by decide +kernel), List.mem_of_getElem? (i := 1169) (by decide +kernel)⟩
theorem lw_p72 : lw_okq (⟨"LeapStonesModel", "carryStones", "(I)I"⟩, 17) := ⟨⟨by decide +kernel, by decide +kernel⟩, List.mem_of_getElem? (i := 812) (by decide +kernel), List.mem_of_getElem? (i := 1172) (by decide +kernel), List.mem_of_getElem? (i := 1173) (by decide +kernel)⟩
theorem lw_p73 : lw_okq (⟨"LeapStonesModel", "carryBegin", "()I"⟩, 17) := ⟨⟨by decide +kernel, by decide +kernel⟩, List.mem_of_getElem? (i := 812) (by decide +kernel), List.mem_of_getElem? (i := 1176) (by decide +kernel), List.mem_of_getElem? (i := 1177) (by decide +kernel)⟩
def lw_privs_5 : List (MethodName × Nat) := [(⟨"LeapStonesModel", "takesIf", "(I)Z"⟩, 17), (⟨"LeapStonesModel", "takeDigit", "(II)I"⟩, 17), (⟨"LeapStonesModel", "takeSign", "(I)V"⟩, 17), (⟨"LeapStonesModel", "takeKey", "()I"⟩, 17), (⟨"LeapStonesModel", "enter", "(IIIII)V"⟩, 17), (⟨"LeapStonesModel", "takeLaying", "()V"⟩, 17), (⟨"LeapStonesModel", "takeStones", "(I)V"⟩, 17), (⟨"LeapStonesModel", "carry", "(I)I"⟩, 17), (⟨"LeapStonesModel", "carryStones", "(I)I"⟩, 17), (⟨"LeapStonesModel", "carryBegin", "()I"⟩, 17)]
theorem lw_r5 : ∀ q ∈ lw_privs_5, lw_okq q := List.forall_mem_cons.mpr ⟨lw_p64, List.forall_mem_cons.mpr ⟨lw_p65, List.forall_mem_cons.mpr ⟨lw_p66, List.forall_mem_cons.mpr ⟨lw_p67, List.forall_mem_cons.mpr ⟨lw_p68, List.forall_mem_cons.mpr ⟨lw_p69, List.forall_mem_cons.mpr ⟨lw_p70, List.forall_mem_cons.mpr ⟨lw_p71, List.forall_mem_cons.mpr ⟨lw_p72, List.forall_mem_cons.mpr ⟨lw_p73, fun _ h => absurd h List.not_mem_nil⟩⟩⟩⟩⟩⟩⟩⟩⟩⟩
def lw_privs : List (MethodName × Nat) := lw_privs_1 ++ (lw_privs_2 ++ (lw_privs_3 ++ (lw_privs_4 ++ (lw_privs_5))))
def lw_tbl : List Cond := k2_sels lw_privs ++ tables_1
theorem lw_privs_ok : ∀ q ∈ lw_privs, lw_okq q := by
  show ∀ q ∈ lw_privs_1 ++ (lw_privs_2 ++ (lw_privs_3 ++ (lw_privs_4 ++ (lw_privs_5)))), lw_okq q
  exact List.forall_mem_append.mpr ⟨lw_r1, List.forall_mem_append.mpr ⟨lw_r2, List.forall_mem_append.mpr ⟨lw_r3, List.forall_mem_append.mpr ⟨lw_r4, lw_r5⟩⟩⟩⟩
-- ===== end of PART A; then your names; then what follows =====
def RX0 : String := "LeapStones$Crossing"
def TX0 : u_T := fun k => match k with
  | 0 => ("LeapStones$Crossing", "begun", "Z", false)
  | 1 => ("LeapStones$Crossing", "over", "Z", false)
  | 2 => ("LeapStones$Crossing", "goal", "I", false)
  | 3 => ("LeapStones$Crossing", "turn", "I", false)
  | 4 => ("LeapStones$Crossing", "meetings", "I", false)
  | 5 => ("LeapStones$Crossing", "meetingKeys", "[I", true)
  | 6 => ("LeapStones$Crossing", "meetingRows", "[I", true)
  | 7 => ("LeapStones$Crossing", "standing", "[I", true)
  | 8 => ("LeapStones$Crossing", "leaps", "[I", true)
  | 9 => ("LeapStones$Crossing", "looks", "[I", true)
  | 10 => ("LeapStones$Crossing", "slips", "[I", true)
  | _ => ("LeapStones$Crossing", "farthest", "[I", true)
def tyX0 : Nat → FieldType := fun k => match k with
  | 0 => .boolean
  | 1 => .boolean
  | 2 => .int
  | 3 => .int
  | 4 => .int
  | 5 => .array .int
  | 6 => .array .int
  | 7 => .array .int
  | 8 => .array .int
  | 9 => .array .int
  | 10 => .array .int
  | _ => .array .int
abbrev wsX00 : List Cond := u_ws RX0 TX0 12
theorem nmX0 : ∀ a, a < 12 → ∀ b, b < 12 → a ≠ b → (TX0 a).2.1 ≠ (TX0 b).2.1 := by decide +kernel
theorem tyX0_ok : ∀ k, k < 12 → parseFieldDescriptor (TX0 k).2.2.1 = some (tyX0 k) := by decide +kernel
abbrev cX0_init : ByteArray := prog_2_method_1_code
def yX0_init : MethodName := ⟨RX0, "<init>", "()V"⟩
abbrev cX0_isBegun : ByteArray := prog_2_method_2_code
def yX0_isBegun : MethodName := ⟨RX0, "isBegun", "()Z"⟩
abbrev cX0_isOver : ByteArray := prog_2_method_3_code
def yX0_isOver : MethodName := ⟨RX0, "isOver", "()Z"⟩
abbrev cX0_goesOn : ByteArray := prog_2_method_4_code
def yX0_goesOn : MethodName := ⟨RX0, "goesOn", "()Z"⟩
abbrev cX0_leaps : ByteArray := prog_2_method_5_code
def yX0_leaps : MethodName := ⟨RX0, "leaps", "()I"⟩
abbrev cX0_looks : ByteArray := prog_2_method_6_code
def yX0_looks : MethodName := ⟨RX0, "looks", "()I"⟩
abbrev cX0_meetings : ByteArray := prog_2_method_7_code
def yX0_meetings : MethodName := ⟨RX0, "meetings", "()I"⟩
abbrev cX0_keyUnder : ByteArray := prog_2_method_8_code
def yX0_keyUnder : MethodName := ⟨RX0, "keyUnder", "(I)I"⟩
abbrev cX0_keyOfMeeting : ByteArray := prog_2_method_9_code
def yX0_keyOfMeeting : MethodName := ⟨RX0, "keyOfMeeting", "(I)I"⟩
abbrev cX0_rowsOfMeeting : ByteArray := prog_2_method_10_code
def yX0_rowsOfMeeting : MethodName := ⟨RX0, "rowsOfMeeting", "(I)I"⟩
abbrev cX0_start : ByteArray := prog_2_method_11_code
def yX0_start : MethodName := ⟨RX0, "start", "(LLeapStones$River;LLeapStones$Settings;)V"⟩
abbrev cX0_step : ByteArray := prog_2_method_12_code
def yX0_step : MethodName := ⟨RX0, "step", "(LLeapStones$River;LLeapStones$Settings;)I"⟩
abbrev cX0_finish : ByteArray := prog_2_method_13_code
def yX0_finish : MethodName := ⟨RX0, "finish", "(LLeapStones$River;LLeapStones$Settings;)I"⟩
abbrev cX0_nextToLeap : ByteArray := prog_2_method_14_code
def yX0_nextToLeap : MethodName := ⟨RX0, "nextToLeap", "(I)I"⟩
abbrev cX0_lookRound : ByteArray := prog_2_method_15_code
def yX0_lookRound : MethodName := ⟨RX0, "lookRound", "(LLeapStones$River;I)V"⟩
abbrev cX0_meet : ByteArray := prog_2_method_16_code
def yX0_meet : MethodName := ⟨RX0, "meet", "(II)V"⟩
abbrev cX0_highestKey : ByteArray := prog_2_method_17_code
def yX0_highestKey : MethodName := ⟨RX0, "highestKey", "()I"⟩
abbrev cX0_endAbove : ByteArray := prog_2_method_18_code
def yX0_endAbove : MethodName := ⟨RX0, "endAbove", "(I)V"⟩
abbrev cX0_slip : ByteArray := prog_2_method_19_code
def yX0_slip : MethodName := ⟨RX0, "slip", "(LLeapStones$River;)V"⟩
abbrev cX0_figureOfWalker : ByteArray := prog_2_method_20_code
def yX0_figureOfWalker : MethodName := ⟨RX0, "figureOfWalker", "(II)I"⟩
abbrev cX0_figure : ByteArray := prog_2_method_21_code
def yX0_figure : MethodName := ⟨RX0, "figure", "(I)I"⟩
abbrev cX0_rowsTogether : ByteArray := prog_2_method_22_code
def yX0_rowsTogether : MethodName := ⟨RX0, "rowsTogether", "()I"⟩
abbrev cX0_copyFrom : ByteArray := prog_2_method_23_code
def yX0_copyFrom : MethodName := ⟨RX0, "copyFrom", "(LLeapStones$Crossing;)V"⟩
def RX1 : String := "LeapStones$Floods"
def TX1 : u_T := fun k => match k with
  | 0 => ("LeapStones$Floods", "taken", "[LLeapStones$River;", true)
  | _ => ("LeapStones$Floods", "ring", "LLeapStones$Ring;", true)
def tyX1 : Nat → FieldType := fun k => match k with
  | 0 => .array (.object "LeapStones$River")
  | _ => .object "LeapStones$Ring"
abbrev wsX10 : List Cond := u_ws RX1 TX1 2
theorem nmX1 : ∀ a, a < 2 → ∀ b, b < 2 → a ≠ b → (TX1 a).2.1 ≠ (TX1 b).2.1 := by decide +kernel
theorem tyX1_ok : ∀ k, k < 2 → parseFieldDescriptor (TX1 k).2.2.1 = some (tyX1 k) := by decide +kernel
abbrev cX1_init : ByteArray := prog_3_method_1_code
def yX1_init : MethodName := ⟨RX1, "<init>", "()V"⟩
abbrev cX1_kept : ByteArray := prog_3_method_2_code
def yX1_kept : MethodName := ⟨RX1, "kept", "()I"⟩
abbrev cX1_at : ByteArray := prog_3_method_3_code
def yX1_at : MethodName := ⟨RX1, "at", "(I)LLeapStones$River;"⟩
abbrev cX1_addEmpty : ByteArray := prog_3_method_4_code
def yX1_addEmpty : MethodName := ⟨RX1, "addEmpty", "()LLeapStones$River;"⟩
abbrev cX1_latest : ByteArray := prog_3_method_5_code
def yX1_latest : MethodName := ⟨RX1, "latest", "()LLeapStones$River;"⟩
abbrev cX1_dropLatest : ByteArray := prog_3_method_6_code
def yX1_dropLatest : MethodName := ⟨RX1, "dropLatest", "()V"⟩
abbrev cX1_copyFrom : ByteArray := prog_3_method_7_code
def yX1_copyFrom : MethodName := ⟨RX1, "copyFrom", "(LLeapStones$Floods;)V"⟩
def RX2 : String := "LeapStones$Pad"
def TX2 : u_T := fun k => match k with
  | 0 => ("LeapStones$Pad", "signs", "[C", true)
  | 1 => ("LeapStones$Pad", "length", "I", false)
  | 2 => ("LeapStones$Pad", "at", "I", false)
  | 3 => ("LeapStones$Pad", "kind", "C", false)
  | 4 => ("LeapStones$Pad", "walker", "I", false)
  | 5 => ("LeapStones$Pad", "from", "I", false)
  | 6 => ("LeapStones$Pad", "to", "I", false)
  | _ => ("LeapStones$Pad", "repeats", "I", false)
def tyX2 : Nat → FieldType := fun k => match k with
  | 0 => .array .char
  | 1 => .int
  | 2 => .int
  | 3 => .char
  | 4 => .int
  | 5 => .int
  | 6 => .int
  | _ => .int
abbrev wsX20 : List Cond := u_ws RX2 TX2 8
theorem nmX2 : ∀ a, a < 8 → ∀ b, b < 8 → a ≠ b → (TX2 a).2.1 ≠ (TX2 b).2.1 := by decide +kernel
theorem tyX2_ok : ∀ k, k < 8 → parseFieldDescriptor (TX2 k).2.2.1 = some (tyX2 k) := by decide +kernel
abbrev cX2_init : ByteArray := prog_4_method_1_code
def yX2_init : MethodName := ⟨RX2, "<init>", "()V"⟩
abbrev cX2_length : ByteArray := prog_4_method_2_code
def yX2_length : MethodName := ⟨RX2, "length", "()I"⟩
abbrev cX2_kind : ByteArray := prog_4_method_3_code
def yX2_kind : MethodName := ⟨RX2, "kind", "()C"⟩
abbrev cX2_walker : ByteArray := prog_4_method_4_code
def yX2_walker : MethodName := ⟨RX2, "walker", "()I"⟩
abbrev cX2_from : ByteArray := prog_4_method_5_code
def yX2_from : MethodName := ⟨RX2, "from", "()I"⟩
abbrev cX2_to : ByteArray := prog_4_method_6_code
def yX2_to : MethodName := ⟨RX2, "to", "()I"⟩
abbrev cX2_repeats : ByteArray := prog_4_method_7_code
def yX2_repeats : MethodName := ⟨RX2, "repeats", "()I"⟩
abbrev cX2_append : ByteArray := prog_4_method_8_code
def yX2_append : MethodName := ⟨RX2, "append", "(C)V"⟩
abbrev cX2_clear : ByteArray := prog_4_method_9_code
def yX2_clear : MethodName := ⟨RX2, "clear", "()V"⟩
abbrev cX2_rewind : ByteArray := prog_4_method_10_code
def yX2_rewind : MethodName := ⟨RX2, "rewind", "()V"⟩
abbrev cX2_firstFault : ByteArray := prog_4_method_11_code
def yX2_firstFault : MethodName := ⟨RX2, "firstFault", "()I"⟩
abbrev cX2_readWholeOrder : ByteArray := prog_4_method_12_code
def yX2_readWholeOrder : MethodName := ⟨RX2, "readWholeOrder", "()Z"⟩
abbrev cX2_readOrder : ByteArray := prog_4_method_13_code
def yX2_readOrder : MethodName := ⟨RX2, "readOrder", "()Z"⟩
abbrev cX2_readFlood : ByteArray := prog_4_method_14_code
def yX2_readFlood : MethodName := ⟨RX2, "readFlood", "()Z"⟩
abbrev cX2_readWalker : ByteArray := prog_4_method_15_code
def yX2_readWalker : MethodName := ⟨RX2, "readWalker", "()Z"⟩
abbrev cX2_readStones : ByteArray := prog_4_method_16_code
def yX2_readStones : MethodName := ⟨RX2, "readStones", "()Z"⟩
abbrev cX2_readRepeats : ByteArray := prog_4_method_17_code
def yX2_readRepeats : MethodName := ⟨RX2, "readRepeats", "()Z"⟩
abbrev cX2_readKey : ByteArray := prog_4_method_18_code
def yX2_readKey : MethodName := ⟨RX2, "readKey", "()I"⟩
abbrev cX2_pass : ByteArray := prog_4_method_19_code
def yX2_pass : MethodName := ⟨RX2, "pass", "(C)Z"⟩
abbrev cX2_next : ByteArray := prog_4_method_20_code
def yX2_next : MethodName := ⟨RX2, "next", "()C"⟩
def RX3 : String := "LeapStones$Path"
def TX3 : u_T := fun k => match k with
  | 0 => ("LeapStones$Path", "keys", "[I", true)
  | 1 => ("LeapStones$Path", "repeats", "[I", true)
  | _ => ("LeapStones$Path", "size", "I", false)
def tyX3 : Nat → FieldType := fun k => match k with
  | 0 => .array .int
  | 1 => .array .int
  | _ => .int
abbrev wsX30 : List Cond := u_ws RX3 TX3 3
theorem nmX3 : ∀ a, a < 3 → ∀ b, b < 3 → a ≠ b → (TX3 a).2.1 ≠ (TX3 b).2.1 := by decide +kernel
theorem tyX3_ok : ∀ k, k < 3 → parseFieldDescriptor (TX3 k).2.2.1 = some (tyX3 k) := by decide +kernel
abbrev cX3_init : ByteArray := prog_5_method_1_code
def yX3_init : MethodName := ⟨RX3, "<init>", "()V"⟩
abbrev cX3_size : ByteArray := prog_5_method_2_code
def yX3_size : MethodName := ⟨RX3, "size", "()I"⟩
abbrev cX3_placeFrom : ByteArray := prog_5_method_3_code
def yX3_placeFrom : MethodName := ⟨RX3, "placeFrom", "(I)I"⟩
abbrev cX3_keyAt : ByteArray := prog_5_method_4_code
def yX3_keyAt : MethodName := ⟨RX3, "keyAt", "(I)I"⟩
abbrev cX3_repeatsAt : ByteArray := prog_5_method_5_code
def yX3_repeatsAt : MethodName := ⟨RX3, "repeatsAt", "(I)I"⟩
abbrev cX3_firstKeyFrom : ByteArray := prog_5_method_6_code
def yX3_firstKeyFrom : MethodName := ⟨RX3, "firstKeyFrom", "(I)I"⟩
abbrev cX3_repeatsOf : ByteArray := prog_5_method_7_code
def yX3_repeatsOf : MethodName := ⟨RX3, "repeatsOf", "(I)I"⟩
abbrev cX3_has : ByteArray := prog_5_method_8_code
def yX3_has : MethodName := ⟨RX3, "has", "(I)Z"⟩
abbrev cX3_hasRoomFor : ByteArray := prog_5_method_9_code
def yX3_hasRoomFor : MethodName := ⟨RX3, "hasRoomFor", "(I)Z"⟩
abbrev cX3_lay : ByteArray := prog_5_method_10_code
def yX3_lay : MethodName := ⟨RX3, "lay", "(II)V"⟩
abbrev cX3_moveTo : ByteArray := prog_5_method_11_code
def yX3_moveTo : MethodName := ⟨RX3, "moveTo", "(LLeapStones$Path;II)V"⟩
abbrev cX3_hasRoomForAll : ByteArray := prog_5_method_12_code
def yX3_hasRoomForAll : MethodName := ⟨RX3, "hasRoomForAll", "(LLeapStones$Path;)Z"⟩
abbrev cX3_addAll : ByteArray := prog_5_method_13_code
def yX3_addAll : MethodName := ⟨RX3, "addAll", "(LLeapStones$Path;)V"⟩
abbrev cX3_looksFor : ByteArray := prog_5_method_14_code
def yX3_looksFor : MethodName := ⟨RX3, "looksFor", "(III)I"⟩
abbrev cX3_looksOneByOne : ByteArray := prog_5_method_15_code
def yX3_looksOneByOne : MethodName := ⟨RX3, "looksOneByOne", "(II)I"⟩
abbrev cX3_looksDoubling : ByteArray := prog_5_method_16_code
def yX3_looksDoubling : MethodName := ⟨RX3, "looksDoubling", "(II)I"⟩
abbrev cX3_looksHalving : ByteArray := prog_5_method_17_code
def yX3_looksHalving : MethodName := ⟨RX3, "looksHalving", "(III)I"⟩
abbrev cX3_clear : ByteArray := prog_5_method_18_code
def yX3_clear : MethodName := ⟨RX3, "clear", "()V"⟩
abbrev cX3_copyFrom : ByteArray := prog_5_method_19_code
def yX3_copyFrom : MethodName := ⟨RX3, "copyFrom", "(LLeapStones$Path;)V"⟩
def RX4 : String := "LeapStones$Ring"
def TX4 : u_T := fun k => match k with
  | 0 => ("LeapStones$Ring", "places", "I", true)
  | 1 => ("LeapStones$Ring", "next", "I", false)
  | _ => ("LeapStones$Ring", "kept", "I", false)
def tyX4 : Nat → FieldType := fun k => match k with
  | 0 => .int
  | 1 => .int
  | _ => .int
abbrev wsX40 : List Cond := u_ws RX4 TX4 3
theorem nmX4 : ∀ a, a < 3 → ∀ b, b < 3 → a ≠ b → (TX4 a).2.1 ≠ (TX4 b).2.1 := by decide +kernel
theorem tyX4_ok : ∀ k, k < 3 → parseFieldDescriptor (TX4 k).2.2.1 = some (tyX4 k) := by decide +kernel
abbrev cX4_init : ByteArray := prog_6_method_1_code
def yX4_init : MethodName := ⟨RX4, "<init>", "(I)V"⟩
abbrev cX4_kept : ByteArray := prog_6_method_2_code
def yX4_kept : MethodName := ⟨RX4, "kept", "()I"⟩
abbrev cX4_add : ByteArray := prog_6_method_3_code
def yX4_add : MethodName := ⟨RX4, "add", "()I"⟩
abbrev cX4_latest : ByteArray := prog_6_method_4_code
def yX4_latest : MethodName := ⟨RX4, "latest", "()I"⟩
abbrev cX4_dropLatest : ByteArray := prog_6_method_5_code
def yX4_dropLatest : MethodName := ⟨RX4, "dropLatest", "()V"⟩
abbrev cX4_copyFrom : ByteArray := prog_6_method_6_code
def yX4_copyFrom : MethodName := ⟨RX4, "copyFrom", "(LLeapStones$Ring;)V"⟩
def RX5 : String := "LeapStones$River"
def TX5 : u_T := fun k => match k with
  | 0 => ("LeapStones$River", "first", "LLeapStones$Path;", true)
  | 1 => ("LeapStones$River", "second", "LLeapStones$Path;", true)
  | _ => ("LeapStones$River", "third", "LLeapStones$Path;", true)
def tyX5 : Nat → FieldType := fun k => match k with
  | 0 => .object "LeapStones$Path"
  | 1 => .object "LeapStones$Path"
  | _ => .object "LeapStones$Path"
abbrev wsX50 : List Cond := u_ws RX5 TX5 3
theorem nmX5 : ∀ a, a < 3 → ∀ b, b < 3 → a ≠ b → (TX5 a).2.1 ≠ (TX5 b).2.1 := by decide +kernel
theorem tyX5_ok : ∀ k, k < 3 → parseFieldDescriptor (TX5 k).2.2.1 = some (tyX5 k) := by decide +kernel
abbrev cX5_init : ByteArray := prog_7_method_1_code
def yX5_init : MethodName := ⟨RX5, "<init>", "()V"⟩
abbrev cX5_pathOf : ByteArray := prog_7_method_2_code
def yX5_pathOf : MethodName := ⟨RX5, "pathOf", "(I)LLeapStones$Path;"⟩
abbrev cX5_stones : ByteArray := prog_7_method_3_code
def yX5_stones : MethodName := ⟨RX5, "stones", "()I"⟩
abbrev cX5_rowsAt : ByteArray := prog_7_method_4_code
def yX5_rowsAt : MethodName := ⟨RX5, "rowsAt", "(I)I"⟩
abbrev cX5_isShared : ByteArray := prog_7_method_5_code
def yX5_isShared : MethodName := ⟨RX5, "isShared", "(III)Z"⟩
abbrev cX5_sharedKeys : ByteArray := prog_7_method_6_code
def yX5_sharedKeys : MethodName := ⟨RX5, "sharedKeys", "(II)I"⟩
abbrev cX5_rowsBetween : ByteArray := prog_7_method_7_code
def yX5_rowsBetween : MethodName := ⟨RX5, "rowsBetween", "(II)I"⟩
abbrev cX5_firstShared : ByteArray := prog_7_method_8_code
def yX5_firstShared : MethodName := ⟨RX5, "firstShared", "(II)I"⟩
abbrev cX5_lastShared : ByteArray := prog_7_method_9_code
def yX5_lastShared : MethodName := ⟨RX5, "lastShared", "(II)I"⟩
abbrev cX5_widestGap : ByteArray := prog_7_method_10_code
def yX5_widestGap : MethodName := ⟨RX5, "widestGap", "(II)I"⟩
abbrev cX5_clear : ByteArray := prog_7_method_11_code
def yX5_clear : MethodName := ⟨RX5, "clear", "()V"⟩
abbrev cX5_copyFrom : ByteArray := prog_7_method_12_code
def yX5_copyFrom : MethodName := ⟨RX5, "copyFrom", "(LLeapStones$River;)V"⟩
def RX6 : String := "LeapStones$Scene"
def TX6 : u_T := fun k => match k with
  | 0 => ("LeapStones$Scene", "settings", "LLeapStones$Settings;", true)
  | 1 => ("LeapStones$Scene", "river", "LLeapStones$River;", true)
  | 2 => ("LeapStones$Scene", "floods", "LLeapStones$Floods;", true)
  | _ => ("LeapStones$Scene", "crossing", "LLeapStones$Crossing;", true)
def tyX6 : Nat → FieldType := fun k => match k with
  | 0 => .object "LeapStones$Settings"
  | 1 => .object "LeapStones$River"
  | 2 => .object "LeapStones$Floods"
  | _ => .object "LeapStones$Crossing"
abbrev wsX60 : List Cond := u_ws RX6 TX6 4
theorem nmX6 : ∀ a, a < 4 → ∀ b, b < 4 → a ≠ b → (TX6 a).2.1 ≠ (TX6 b).2.1 := by decide +kernel
theorem tyX6_ok : ∀ k, k < 4 → parseFieldDescriptor (TX6 k).2.2.1 = some (tyX6 k) := by decide +kernel
abbrev cX6_init : ByteArray := prog_8_method_1_code
def yX6_init : MethodName := ⟨RX6, "<init>", "()V"⟩
abbrev cX6_changeSetting : ByteArray := prog_8_method_2_code
def yX6_changeSetting : MethodName := ⟨RX6, "changeSetting", "(II)I"⟩
abbrev cX6_errorOfLaying : ByteArray := prog_8_method_3_code
def yX6_errorOfLaying : MethodName := ⟨RX6, "errorOfLaying", "(III)I"⟩
abbrev cX6_lay : ByteArray := prog_8_method_4_code
def yX6_lay : MethodName := ⟨RX6, "lay", "(III)I"⟩
abbrev cX6_errorOfFlooding : ByteArray := prog_8_method_5_code
def yX6_errorOfFlooding : MethodName := ⟨RX6, "errorOfFlooding", "(III)I"⟩
abbrev cX6_takeAway : ByteArray := prog_8_method_6_code
def yX6_takeAway : MethodName := ⟨RX6, "takeAway", "(III)I"⟩
abbrev cX6_errorOfDrying : ByteArray := prog_8_method_7_code
def yX6_errorOfDrying : MethodName := ⟨RX6, "errorOfDrying", "()I"⟩
abbrev cX6_giveBack : ByteArray := prog_8_method_8_code
def yX6_giveBack : MethodName := ⟨RX6, "giveBack", "()I"⟩
abbrev cX6_start : ByteArray := prog_8_method_9_code
def yX6_start : MethodName := ⟨RX6, "start", "()I"⟩
abbrev cX6_step : ByteArray := prog_8_method_10_code
def yX6_step : MethodName := ⟨RX6, "step", "()I"⟩
abbrev cX6_copyFrom : ByteArray := prog_8_method_11_code
def yX6_copyFrom : MethodName := ⟨RX6, "copyFrom", "(LLeapStones$Scene;)V"⟩
def RX7 : String := "LeapStones$Settings"
def TX7 : u_T := fun k => match k with
  | _ => ("LeapStones$Settings", "values", "[I", true)
def tyX7 : Nat → FieldType := fun k => match k with
  | _ => .array .int
abbrev wsX70 : List Cond := u_ws RX7 TX7 1
theorem nmX7 : ∀ a, a < 1 → ∀ b, b < 1 → a ≠ b → (TX7 a).2.1 ≠ (TX7 b).2.1 := by decide +kernel
theorem tyX7_ok : ∀ k, k < 1 → parseFieldDescriptor (TX7 k).2.2.1 = some (tyX7 k) := by decide +kernel
abbrev cX7_init : ByteArray := prog_9_method_1_code
def yX7_init : MethodName := ⟨RX7, "<init>", "()V"⟩
abbrev cX7_valueOf : ByteArray := prog_9_method_2_code
def yX7_valueOf : MethodName := ⟨RX7, "valueOf", "(I)I"⟩
abbrev cX7_change : ByteArray := prog_9_method_3_code
def yX7_change : MethodName := ⟨RX7, "change", "(II)V"⟩
abbrev cX7_copyFrom : ByteArray := prog_9_method_4_code
def yX7_copyFrom : MethodName := ⟨RX7, "copyFrom", "(LLeapStones$Settings;)V"⟩
def RX8 : String := "LeapStones"
def TX8 : u_T := fun k => match k with
  | 0 => ("LeapStones", "now", "LLeapStones$Scene;", true)
  | 1 => ("LeapStones", "past", "[LLeapStones$Scene;", true)
  | 2 => ("LeapStones", "changes", "LLeapStones$Ring;", true)
  | 3 => ("LeapStones", "slots", "[LLeapStones$Scene;", true)
  | 4 => ("LeapStones", "saved", "[Z", true)
  | 5 => ("LeapStones", "pad", "LLeapStones$Pad;", true)
  | 6 => ("LeapStones", "trial", "LLeapStones$Crossing;", true)
  | _ => ("LeapStones", "trialSettings", "LLeapStones$Settings;", true)
def tyX8 : Nat → FieldType := fun k => match k with
  | 0 => .object "LeapStones$Scene"
  | 1 => .array (.object "LeapStones$Scene")
  | 2 => .object "LeapStones$Ring"
  | 3 => .array (.object "LeapStones$Scene")
  | 4 => .array .boolean
  | 5 => .object "LeapStones$Pad"
  | 6 => .object "LeapStones$Crossing"
  | _ => .object "LeapStones$Settings"
abbrev wsX80 : List Cond := u_ws RX8 TX8 8
theorem nmX8 : ∀ a, a < 8 → ∀ b, b < 8 → a ≠ b → (TX8 a).2.1 ≠ (TX8 b).2.1 := by decide +kernel
theorem tyX8_ok : ∀ k, k < 8 → parseFieldDescriptor (TX8 k).2.2.1 = some (tyX8 k) := by decide +kernel
abbrev cX8_init : ByteArray := prog_1_method_1_code
def yX8_init : MethodName := ⟨RX8, "<init>", "()V"⟩
abbrev cX8_set : ByteArray := prog_1_method_2_code
def yX8_set : MethodName := ⟨RX8, "set", "(II)I"⟩
abbrev cX8_stone : ByteArray := prog_1_method_3_code
def yX8_stone : MethodName := ⟨RX8, "stone", "(III)I"⟩
abbrev cX8_flood : ByteArray := prog_1_method_4_code
def yX8_flood : MethodName := ⟨RX8, "flood", "(III)I"⟩
abbrev cX8_dry : ByteArray := prog_1_method_5_code
def yX8_dry : MethodName := ⟨RX8, "dry", "()I"⟩
abbrev cX8_begin : ByteArray := prog_1_method_6_code
def yX8_begin : MethodName := ⟨RX8, "begin", "()I"⟩
abbrev cX8_leap : ByteArray := prog_1_method_7_code
def yX8_leap : MethodName := ⟨RX8, "leap", "()I"⟩
abbrev cX8_run : ByteArray := prog_1_method_8_code
def yX8_run : MethodName := ⟨RX8, "run", "()I"⟩
abbrev cX8_ofWalker : ByteArray := prog_1_method_9_code
def yX8_ofWalker : MethodName := ⟨RX8, "ofWalker", "(II)I"⟩
abbrev cX8_ofStone : ByteArray := prog_1_method_10_code
def yX8_ofStone : MethodName := ⟨RX8, "ofStone", "(III)I"⟩
abbrev cX8_ofRun : ByteArray := prog_1_method_11_code
def yX8_ofRun : MethodName := ⟨RX8, "ofRun", "(I)I"⟩
abbrev cX8_meeting : ByteArray := prog_1_method_12_code
def yX8_meeting : MethodName := ⟨RX8, "meeting", "(II)I"⟩
abbrev cX8_count : ByteArray := prog_1_method_13_code
def yX8_count : MethodName := ⟨RX8, "count", "(I)I"⟩
abbrev cX8_walking : ByteArray := prog_1_method_14_code
def yX8_walking : MethodName := ⟨RX8, "walking", "(I)I"⟩
abbrev cX8_runWith : ByteArray := prog_1_method_15_code
def yX8_runWith : MethodName := ⟨RX8, "runWith", "(III)I"⟩
abbrev cX8_cheapest : ByteArray := prog_1_method_16_code
def yX8_cheapest : MethodName := ⟨RX8, "cheapest", "(I)I"⟩
abbrev cX8_lostBy : ByteArray := prog_1_method_17_code
def yX8_lostBy : MethodName := ⟨RX8, "lostBy", "(II)I"⟩
abbrev cX8_put : ByteArray := prog_1_method_18_code
def yX8_put : MethodName := ⟨RX8, "put", "(J)I"⟩
abbrev cX8_wipe : ByteArray := prog_1_method_19_code
def yX8_wipe : MethodName := ⟨RX8, "wipe", "()I"⟩
abbrev cX8_fault : ByteArray := prog_1_method_20_code
def yX8_fault : MethodName := ⟨RX8, "fault", "()I"⟩
abbrev cX8_carryOut : ByteArray := prog_1_method_21_code
def yX8_carryOut : MethodName := ⟨RX8, "carryOut", "()I"⟩
abbrev cX8_undo : ByteArray := prog_1_method_22_code
def yX8_undo : MethodName := ⟨RX8, "undo", "()I"⟩
abbrev cX8_save : ByteArray := prog_1_method_23_code
def yX8_save : MethodName := ⟨RX8, "save", "(I)I"⟩
abbrev cX8_restore : ByteArray := prog_1_method_24_code
def yX8_restore : MethodName := ⟨RX8, "restore", "(I)I"⟩
abbrev cX8_remember : ByteArray := prog_1_method_25_code
def yX8_remember : MethodName := ⟨RX8, "remember", "()V"⟩
abbrev cX8_tryOut : ByteArray := prog_1_method_26_code
def yX8_tryOut : MethodName := ⟨RX8, "tryOut", "(II)V"⟩
abbrev cX8_carryOrder : ByteArray := prog_1_method_27_code
def yX8_carryOrder : MethodName := ⟨RX8, "carryOrder", "()Z"⟩
abbrev cX8_carryStones : ByteArray := prog_1_method_28_code
def yX8_carryStones : MethodName := ⟨RX8, "carryStones", "()Z"⟩
abbrev cX8_layRange : ByteArray := prog_1_method_29_code
def yX8_layRange : MethodName := ⟨RX8, "layRange", "(IIII)Z"⟩
abbrev cX8_signsIn : ByteArray := prog_1_method_30_code
def yX8_signsIn : MethodName := ⟨RX8, "signsIn", "(J)I"⟩
abbrev cX8_signOf : ByteArray := prog_1_method_31_code
def yX8_signOf : MethodName := ⟨RX8, "signOf", "(JI)C"⟩
abbrev cX8_isBetween : ByteArray := prog_1_method_32_code
def yX8_isBetween : MethodName := ⟨RX8, "isBetween", "(III)Z"⟩
abbrev cX8_isWalker : ByteArray := prog_1_method_33_code
def yX8_isWalker : MethodName := ⟨RX8, "isWalker", "(I)Z"⟩
abbrev cX8_isSlot : ByteArray := prog_1_method_34_code
def yX8_isSlot : MethodName := ⟨RX8, "isSlot", "(I)Z"⟩
abbrev cX8_isRange : ByteArray := prog_1_method_35_code
def yX8_isRange : MethodName := ⟨RX8, "isRange", "(II)Z"⟩
abbrev cX8_highestValue : ByteArray := prog_1_method_36_code
def yX8_highestValue : MethodName := ⟨RX8, "highestValue", "(I)I"⟩
abbrev cX8_walkerInTurn : ByteArray := prog_1_method_37_code
def yX8_walkerInTurn : MethodName := ⟨RX8, "walkerInTurn", "(II)I"⟩
abbrev cX8_walkerBehind : ByteArray := prog_1_method_38_code
def yX8_walkerBehind : MethodName := ⟨RX8, "walkerBehind", "(III)I"⟩
abbrev cX8_copyRow : ByteArray := prog_1_method_39_code
def yX8_copyRow : MethodName := ⟨RX8, "copyRow", "([I[II)V"⟩
abbrev cX8_sumOf : ByteArray := prog_1_method_40_code
def yX8_sumOf : MethodName := ⟨RX8, "sumOf", "([I)I"⟩
def RX9 : String := "LeapStonesModel"
def TX9 : u_T := fun k => match k with
  | 0 => ("LeapStonesModel", "at", "[I", true)
  | 1 => ("LeapStonesModel", "past", "[I", true)
  | 2 => ("LeapStonesModel", "pastFirst", "I", false)
  | 3 => ("LeapStonesModel", "pastMany", "I", false)
  | 4 => ("LeapStonesModel", "slots", "[I", true)
  | 5 => ("LeapStonesModel", "isSaved", "[Z", true)
  | 6 => ("LeapStonesModel", "aside", "[I", true)
  | 7 => ("LeapStonesModel", "keys", "[I", true)
  | 8 => ("LeapStonesModel", "keysMany", "I", false)
  | 9 => ("LeapStonesModel", "looked", "I", false)
  | 10 => ("LeapStonesModel", "pad", "[I", true)
  | 11 => ("LeapStonesModel", "padMany", "I", false)
  | 12 => ("LeapStonesModel", "spot", "I", false)
  | 13 => ("LeapStonesModel", "isWrong", "Z", false)
  | 14 => ("LeapStonesModel", "orders", "I", false)
  | 15 => ("LeapStonesModel", "pieces", "I", false)
  | _ => ("LeapStonesModel", "piece", "[I", true)
def tyX9 : Nat → FieldType := fun k => match k with
  | 0 => .array .int
  | 1 => .array .int
  | 2 => .int
  | 3 => .int
  | 4 => .array .int
  | 5 => .array .boolean
  | 6 => .array .int
  | 7 => .array .int
  | 8 => .int
  | 9 => .int
  | 10 => .array .int
  | 11 => .int
  | 12 => .int
  | 13 => .boolean
  | 14 => .int
  | 15 => .int
  | _ => .array .int
abbrev wsX90 : List Cond := u_ws RX9 TX9 17
theorem nmX9 : ∀ a, a < 17 → ∀ b, b < 17 → a ≠ b → (TX9 a).2.1 ≠ (TX9 b).2.1 := by decide +kernel
theorem tyX9_ok : ∀ k, k < 17 → parseFieldDescriptor (TX9 k).2.2.1 = some (tyX9 k) := by decide +kernel
abbrev cX9_init : ByteArray := prog_11_method_1_code
def yX9_init : MethodName := ⟨RX9, "<init>", "()V"⟩
abbrev cX9_in : ByteArray := prog_11_method_3_code
def yX9_in : MethodName := ⟨RX9, "in", "(III)Z"⟩
abbrev cX9_isWalker : ByteArray := prog_11_method_4_code
def yX9_isWalker : MethodName := ⟨RX9, "isWalker", "(I)Z"⟩
abbrev cX9_isKey : ByteArray := prog_11_method_5_code
def yX9_isKey : MethodName := ⟨RX9, "isKey", "(I)Z"⟩
abbrev cX9_repeats : ByteArray := prog_11_method_6_code
def yX9_repeats : MethodName := ⟨RX9, "repeats", "(II)I"⟩
abbrev cX9_stonesOf : ByteArray := prog_11_method_7_code
def yX9_stonesOf : MethodName := ⟨RX9, "stonesOf", "(I)I"⟩
abbrev cX9_keep : ByteArray := prog_11_method_8_code
def yX9_keep : MethodName := ⟨RX9, "keep", "()V"⟩
abbrev cX9_keepIf : ByteArray := prog_11_method_9_code
def yX9_keepIf : MethodName := ⟨RX9, "keepIf", "(Z)V"⟩
abbrev cX9_layAside : ByteArray := prog_11_method_10_code
def yX9_layAside : MethodName := ⟨RX9, "layAside", "()V"⟩
abbrev cX9_layBack : ByteArray := prog_11_method_11_code
def yX9_layBack : MethodName := ⟨RX9, "layBack", "()V"⟩
abbrev cX9_firstFrom : ByteArray := prog_11_method_12_code
def yX9_firstFrom : MethodName := ⟨RX9, "firstFrom", "(II)I"⟩
abbrev cX9_stands : ByteArray := prog_11_method_13_code
def yX9_stands : MethodName := ⟨RX9, "stands", "(I)I"⟩
abbrev cX9_inTurn : ByteArray := prog_11_method_14_code
def yX9_inTurn : MethodName := ⟨RX9, "inTurn", "(I)I"⟩
abbrev cX9_placeInTurn : ByteArray := prog_11_method_15_code
def yX9_placeInTurn : MethodName := ⟨RX9, "placeInTurn", "(I)I"⟩
abbrev cX9_overIfSo : ByteArray := prog_11_method_16_code
def yX9_overIfSo : MethodName := ⟨RX9, "overIfSo", "()V"⟩
abbrev cX9_greatest : ByteArray := prog_11_method_17_code
def yX9_greatest : MethodName := ⟨RX9, "greatest", "()I"⟩
abbrev cX9_rowsAt : ByteArray := prog_11_method_18_code
def yX9_rowsAt : MethodName := ⟨RX9, "rowsAt", "(I)I"⟩
abbrev cX9_lookRound : ByteArray := prog_11_method_19_code
def yX9_lookRound : MethodName := ⟨RX9, "lookRound", "()V"⟩
abbrev cX9_beginRun : ByteArray := prog_11_method_20_code
def yX9_beginRun : MethodName := ⟨RX9, "beginRun", "()V"⟩
abbrev cX9_begin : ByteArray := prog_11_method_21_code
def yX9_begin : MethodName := ⟨RX9, "begin", "()I"⟩
abbrev cX9_layKeys : ByteArray := prog_11_method_22_code
def yX9_layKeys : MethodName := ⟨RX9, "layKeys", "(I)V"⟩
abbrev cX9_isShort : ByteArray := prog_11_method_23_code
def yX9_isShort : MethodName := ⟨RX9, "isShort", "(I)Z"⟩
abbrev cX9_halve : ByteArray := prog_11_method_24_code
def yX9_halve : MethodName := ⟨RX9, "halve", "(II)V"⟩
abbrev cX9_walkOn : ByteArray := prog_11_method_25_code
def yX9_walkOn : MethodName := ⟨RX9, "walkOn", "(I)V"⟩
abbrev cX9_doubleOn : ByteArray := prog_11_method_26_code
def yX9_doubleOn : MethodName := ⟨RX9, "doubleOn", "(I)V"⟩
abbrev cX9_looksOf : ByteArray := prog_11_method_27_code
def yX9_looksOf : MethodName := ⟨RX9, "looksOf", "(I)I"⟩
abbrev cX9_makeLeap : ByteArray := prog_11_method_28_code
def yX9_makeLeap : MethodName := ⟨RX9, "makeLeap", "()I"⟩
abbrev cX9_tryLeap : ByteArray := prog_11_method_29_code
def yX9_tryLeap : MethodName := ⟨RX9, "tryLeap", "(Z)I"⟩
abbrev cX9_leap : ByteArray := prog_11_method_30_code
def yX9_leap : MethodName := ⟨RX9, "leap", "()I"⟩
abbrev cX9_leapOn : ByteArray := prog_11_method_31_code
def yX9_leapOn : MethodName := ⟨RX9, "leapOn", "()I"⟩
abbrev cX9_run : ByteArray := prog_11_method_32_code
def yX9_run : MethodName := ⟨RX9, "run", "()I"⟩
abbrev cX9_set : ByteArray := prog_11_method_33_code
def yX9_set : MethodName := ⟨RX9, "set", "(II)I"⟩
abbrev cX9_tryStone : ByteArray := prog_11_method_34_code
def yX9_tryStone : MethodName := ⟨RX9, "tryStone", "(III)I"⟩
abbrev cX9_lay : ByteArray := prog_11_method_35_code
def yX9_lay : MethodName := ⟨RX9, "lay", "(III)V"⟩
abbrev cX9_stone : ByteArray := prog_11_method_36_code
def yX9_stone : MethodName := ⟨RX9, "stone", "(III)I"⟩
abbrev cX9_isRange : ByteArray := prog_11_method_37_code
def yX9_isRange : MethodName := ⟨RX9, "isRange", "(II)Z"⟩
abbrev cX9_dropOldest : ByteArray := prog_11_method_38_code
def yX9_dropOldest : MethodName := ⟨RX9, "dropOldest", "()V"⟩
abbrev cX9_take : ByteArray := prog_11_method_39_code
def yX9_take : MethodName := ⟨RX9, "take", "(III)I"⟩
abbrev cX9_slip : ByteArray := prog_11_method_40_code
def yX9_slip : MethodName := ⟨RX9, "slip", "(I)V"⟩
abbrev cX9_tryFlood : ByteArray := prog_11_method_41_code
def yX9_tryFlood : MethodName := ⟨RX9, "tryFlood", "(IIIZ)I"⟩
abbrev cX9_flood : ByteArray := prog_11_method_42_code
def yX9_flood : MethodName := ⟨RX9, "flood", "(III)I"⟩
abbrev cX9_taken : ByteArray := prog_11_method_43_code
def yX9_taken : MethodName := ⟨RX9, "taken", "(II)I"⟩
abbrev cX9_wouldBeTooMany : ByteArray := prog_11_method_44_code
def yX9_wouldBeTooMany : MethodName := ⟨RX9, "wouldBeTooMany", "(I)Z"⟩
abbrev cX9_giveBack : ByteArray := prog_11_method_45_code
def yX9_giveBack : MethodName := ⟨RX9, "giveBack", "(I)I"⟩
abbrev cX9_tryDry : ByteArray := prog_11_method_46_code
def yX9_tryDry : MethodName := ⟨RX9, "tryDry", "(Z)I"⟩
abbrev cX9_dry : ByteArray := prog_11_method_47_code
def yX9_dry : MethodName := ⟨RX9, "dry", "()I"⟩
abbrev cX9_placeOf : ByteArray := prog_11_method_48_code
def yX9_placeOf : MethodName := ⟨RX9, "placeOf", "(I)I"⟩
abbrev cX9_ofRunning : ByteArray := prog_11_method_49_code
def yX9_ofRunning : MethodName := ⟨RX9, "ofRunning", "(II)I"⟩
abbrev cX9_ofWalker : ByteArray := prog_11_method_50_code
def yX9_ofWalker : MethodName := ⟨RX9, "ofWalker", "(II)I"⟩
abbrev cX9_ofStone : ByteArray := prog_11_method_51_code
def yX9_ofStone : MethodName := ⟨RX9, "ofStone", "(III)I"⟩
abbrev cX9_sumOf : ByteArray := prog_11_method_52_code
def yX9_sumOf : MethodName := ⟨RX9, "sumOf", "(I)I"⟩
abbrev cX9_meetings : ByteArray := prog_11_method_53_code
def yX9_meetings : MethodName := ⟨RX9, "meetings", "()I"⟩
abbrev cX9_metRows : ByteArray := prog_11_method_54_code
def yX9_metRows : MethodName := ⟨RX9, "metRows", "()I"⟩
abbrev cX9_ofRun : ByteArray := prog_11_method_55_code
def yX9_ofRun : MethodName := ⟨RX9, "ofRun", "(I)I"⟩
abbrev cX9_meeting : ByteArray := prog_11_method_56_code
def yX9_meeting : MethodName := ⟨RX9, "meeting", "(II)I"⟩
abbrev cX9_count : ByteArray := prog_11_method_57_code
def yX9_count : MethodName := ⟨RX9, "count", "(I)I"⟩
abbrev cX9_rowsFrom : ByteArray := prog_11_method_58_code
def yX9_rowsFrom : MethodName := ⟨RX9, "rowsFrom", "(II)I"⟩
abbrev cX9_walking : ByteArray := prog_11_method_59_code
def yX9_walking : MethodName := ⟨RX9, "walking", "(I)I"⟩
abbrev cX9_wouldTake : ByteArray := prog_11_method_60_code
def yX9_wouldTake : MethodName := ⟨RX9, "wouldTake", "(III)I"⟩
abbrev cX9_runWith : ByteArray := prog_11_method_61_code
def yX9_runWith : MethodName := ⟨RX9, "runWith", "(III)I"⟩
abbrev cX9_cheapest : ByteArray := prog_11_method_62_code
def yX9_cheapest : MethodName := ⟨RX9, "cheapest", "(I)I"⟩
abbrev cX9_lostBy : ByteArray := prog_11_method_63_code
def yX9_lostBy : MethodName := ⟨RX9, "lostBy", "(II)I"⟩
abbrev cX9_put : ByteArray := prog_11_method_64_code
def yX9_put : MethodName := ⟨RX9, "put", "(J)I"⟩
abbrev cX9_wipe : ByteArray := prog_11_method_65_code
def yX9_wipe : MethodName := ⟨RX9, "wipe", "()I"⟩
abbrev cX9_next : ByteArray := prog_11_method_66_code
def yX9_next : MethodName := ⟨RX9, "next", "()I"⟩
abbrev cX9_takeSign : ByteArray := prog_11_method_67_code
def yX9_takeSign : MethodName := ⟨RX9, "takeSign", "(I)V"⟩
abbrev cX9_takesIf : ByteArray := prog_11_method_68_code
def yX9_takesIf : MethodName := ⟨RX9, "takesIf", "(I)Z"⟩
abbrev cX9_takeDigit : ByteArray := prog_11_method_69_code
def yX9_takeDigit : MethodName := ⟨RX9, "takeDigit", "(II)I"⟩
abbrev cX9_takeKey : ByteArray := prog_11_method_70_code
def yX9_takeKey : MethodName := ⟨RX9, "takeKey", "()I"⟩
abbrev cX9_enter : ByteArray := prog_11_method_71_code
def yX9_enter : MethodName := ⟨RX9, "enter", "(IIIII)V"⟩
abbrev cX9_takeStones : ByteArray := prog_11_method_72_code
def yX9_takeStones : MethodName := ⟨RX9, "takeStones", "(I)V"⟩
abbrev cX9_takeLaying : ByteArray := prog_11_method_73_code
def yX9_takeLaying : MethodName := ⟨RX9, "takeLaying", "()V"⟩
abbrev cX9_takeFlood : ByteArray := prog_11_method_74_code
def yX9_takeFlood : MethodName := ⟨RX9, "takeFlood", "()V"⟩
abbrev cX9_takeOrder : ByteArray := prog_11_method_75_code
def yX9_takeOrder : MethodName := ⟨RX9, "takeOrder", "()V"⟩
abbrev cX9_fault : ByteArray := prog_11_method_76_code
def yX9_fault : MethodName := ⟨RX9, "fault", "()I"⟩
abbrev cX9_carryStones : ByteArray := prog_11_method_77_code
def yX9_carryStones : MethodName := ⟨RX9, "carryStones", "(I)I"⟩
abbrev cX9_carryBegin : ByteArray := prog_11_method_78_code
def yX9_carryBegin : MethodName := ⟨RX9, "carryBegin", "()I"⟩
abbrev cX9_carry : ByteArray := prog_11_method_79_code
def yX9_carry : MethodName := ⟨RX9, "carry", "(I)I"⟩
abbrev cX9_carryOut : ByteArray := prog_11_method_80_code
def yX9_carryOut : MethodName := ⟨RX9, "carryOut", "()I"⟩
abbrev cX9_undo : ByteArray := prog_11_method_81_code
def yX9_undo : MethodName := ⟨RX9, "undo", "()I"⟩
abbrev cX9_save : ByteArray := prog_11_method_82_code
def yX9_save : MethodName := ⟨RX9, "save", "(I)I"⟩
abbrev cX9_restore : ByteArray := prog_11_method_83_code
def yX9_restore : MethodName := ⟨RX9, "restore", "(I)I"⟩
def RL : String := "LeapStonesLaw"
abbrev cL_law : ByteArray := code
abbrev vwCl : List vw_C := [(RX0, TX0, 12), (RX1, TX1, 2), (RX2, TX2, 8), (RX3, TX3, 3), (RX4, TX4, 3), (RX5, TX5, 3), (RX6, TX6, 4), (RX7, TX7, 1), (RX8, TX8, 8), (RX9, TX9, 17)]
def lw_g : List Cond := lw_tbl.filter goodWord
theorem lw_gm {w : Cond} (i : Nat) (h : lw_tbl[i]? = some w) (hg : goodWord w = true) : w ∈ lw_g := List.mem_filter.mpr ⟨List.mem_of_getElem? h, hg⟩
theorem lw_gl (ws : List Cond) (ps : List Nat) (hp : ps.map (fun i => lw_tbl[i]?) = ws.map some) (h : ws.all goodWord = true) : ∀ w ∈ ws, w ∈ lw_g := by
  intro w hw
  have h1 : some w ∈ ps.map (fun i => lw_tbl[i]?) := by rw [hp]; exact List.mem_map.mpr ⟨w, hw, rfl⟩
  obtain ⟨i, -, hi⟩ := List.mem_map.mp h1
  exact lw_gm i hi (List.all_eq_true.mp h w hw)
set_option maxRecDepth 100000 in
theorem inX0 : ∀ w ∈ wsX00, w ∈ lw_g := lw_gl _ [194, 196, 198, 200, 202, 204, 206, 208, 210, 212, 214, 216] (by decide +kernel) (by decide +kernel)
set_option maxRecDepth 100000 in
theorem inX1 : ∀ w ∈ wsX10, w ∈ lw_g := lw_gl _ [171, 173] (by decide +kernel) (by decide +kernel)
set_option maxRecDepth 100000 in
theorem inX2 : ∀ w ∈ wsX20, w ∈ lw_g := lw_gl _ [253, 255, 257, 259, 261, 263, 265, 267] (by decide +kernel) (by decide +kernel)
set_option maxRecDepth 100000 in
theorem inX3 : ∀ w ∈ wsX30, w ∈ lw_g := lw_gl _ [127, 129, 131] (by decide +kernel) (by decide +kernel)
set_option maxRecDepth 100000 in
theorem inX4 : ∀ w ∈ wsX40, w ∈ lw_g := lw_gl _ [161, 163, 165] (by decide +kernel) (by decide +kernel)
set_option maxRecDepth 100000 in
theorem inX5 : ∀ w ∈ wsX50, w ∈ lw_g := lw_gl _ [137, 139, 141] (by decide +kernel) (by decide +kernel)
set_option maxRecDepth 100000 in
theorem inX6 : ∀ w ∈ wsX60, w ∈ lw_g := lw_gl _ [227, 229, 231, 233] (by decide +kernel) (by decide +kernel)
set_option maxRecDepth 100000 in
theorem inX7 : ∀ w ∈ wsX70, w ∈ lw_g := lw_gl _ [108] (by decide +kernel) (by decide +kernel)
set_option maxRecDepth 100000 in
theorem inX8 : ∀ w ∈ wsX80, w ∈ lw_g := lw_gl _ [284, 286, 288, 290, 292, 294, 296, 298] (by decide +kernel) (by decide +kernel)
set_option maxRecDepth 100000 in
theorem inX9 : ∀ w ∈ wsX90, w ∈ lw_g := lw_gl _ [908, 910, 912, 914, 916, 918, 920, 922, 924, 926, 928, 930, 932, 934, 936, 938, 940] (by decide +kernel) (by decide +kernel)
def nws : List Cond := [.methodLinkNest "LeapStones" 11 ⟨"LeapStones$Scene", "<init>", "()V"⟩ "LeapStones", .methodLinkNest "LeapStones$Scene" 11 ⟨"LeapStones$Settings", "<init>", "()V"⟩ "LeapStones", .methodLinkNest "LeapStones$Scene" 20 ⟨"LeapStones$River", "<init>", "()V"⟩ "LeapStones", .methodLinkNest "LeapStones$River" 11 ⟨"LeapStones$Path", "<init>", "()V"⟩ "LeapStones", .methodLinkNest "LeapStones$Floods" 26 ⟨"LeapStones$River", "<init>", "()V"⟩ "LeapStones", .methodLinkNest "LeapStones$Scene" 34 ⟨"LeapStones$Crossing", "<init>", "()V"⟩ "LeapStones", .fieldLinkNest "LeapStones" 109 "LeapStones$Scene" "settings" "LLeapStones$Settings;" "LeapStones", .fieldLinkNest "LeapStones" 105 "LeapStones$Scene" "river" "LLeapStones$River;" "LeapStones", .fieldLinkNest "LeapStones" 164 "LeapStones$Scene" "floods" "LLeapStones$Floods;" "LeapStones", .fieldLinkNest "LeapStones" 95 "LeapStones$Scene" "crossing" "LLeapStones$Crossing;" "LeapStones", .methodLinkNest "LeapStones" 38 ⟨"LeapStones$Pad", "<init>", "()V"⟩ "LeapStones", .methodLinkNest "LeapStones" 45 ⟨"LeapStones$Crossing", "<init>", "()V"⟩ "LeapStones", .methodLinkNest "LeapStones" 52 ⟨"LeapStones$Settings", "<init>", "()V"⟩ "LeapStones", .methodLinkNest "LeapStones$Settings" 19 ⟨"LeapStones", "copyRow", "([I[II)V"⟩ "LeapStones", .methodLinkNest "LeapStones$Path" 60 ⟨"LeapStones", "copyRow", "([I[II)V"⟩ "LeapStones", .methodLinkNest "LeapStones$Floods" 31 ⟨"LeapStones", "isBetween", "(III)Z"⟩ "LeapStones", .methodLinkNest "LeapStones$Crossing" 140 ⟨"LeapStones", "copyRow", "([I[II)V"⟩ "LeapStones", .methodLinkNest "LeapStones$Settings" 15 ⟨"LeapStones", "isBetween", "(III)Z"⟩ "LeapStones", .methodLinkNest "LeapStones$Scene" 51 ⟨"LeapStones", "isWalker", "(I)Z"⟩ "LeapStones", .methodLinkNest "LeapStones$Scene" 55 ⟨"LeapStones", "isBetween", "(III)Z"⟩ "LeapStones", .methodLinkNest "LeapStones$Scene" 74 ⟨"LeapStones", "isRange", "(II)Z"⟩ "LeapStones", .methodLinkNest "LeapStones$Path" 32 ⟨"LeapStones", "isBetween", "(III)Z"⟩ "LeapStones", .methodLinkNest "LeapStones$Crossing" 65 ⟨"LeapStones", "walkerInTurn", "(II)I"⟩ "LeapStones", .methodLinkNest "LeapStones$Crossing" 102 ⟨"LeapStones", "walkerBehind", "(III)I"⟩ "LeapStones", .methodLinkNest "LeapStones$Crossing" 48 ⟨"LeapStones", "isWalker", "(I)Z"⟩ "LeapStones", .methodLinkNest "LeapStones$Crossing" 52 ⟨"LeapStones", "isBetween", "(III)Z"⟩ "LeapStones", .methodLinkNest "LeapStones$Crossing" 40 ⟨"LeapStones", "sumOf", "([I)I"⟩ "LeapStones", .methodLinkNest "LeapStones$River" 32 ⟨"LeapStones", "isBetween", "(III)Z"⟩ "LeapStones", .methodLinkNest "LeapStones$Pad" 52 ⟨"LeapStones", "isBetween", "(III)Z"⟩ "LeapStones"]
set_option maxRecDepth 100000 in
theorem nws_in : [97, 103, 114, 120, 168, 178, 220, 222, 224, 226, 241, 273, 275, 330, 345, 358, 364, 373, 397, 400, 438, 462, 559, 586, 594, 663, 664, 708, 815].map (fun i => lw_tbl[i]?) = nws.map some := by decide +kernel
