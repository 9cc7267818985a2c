-- ===== PART A: goes FIRST, ahead of the names: the tables' words, and 'selects' of the private methods out of them =====
/-- a private method of a class that the tables say can be made, by its rows of tables_1 -/
def lw_okq (q : MethodName × Nat) : Prop := (q.1.cls ≠ "java/lang/invoke/MethodHandle" ∧ q.1.cls ≠ "java/lang/invoke/VarHandle") ∧ Cond.instantiable q.1.cls q.2 ∈ tables_1 ∧ Cond.privateMethod q.1 ∈ tables_1 ∧ Cond.instanceMethod q.1 ∈ tables_1
theorem lw_p0 : lw_okq (⟨"LeapStones", "remember", "()V"⟩, 8) := ⟨⟨by decide +kernel, by decide +kernel⟩, List.mem_of_getElem? (i := 13) (by decide +kernel), List.mem_of_getElem? (i := 237) (by decide +kernel), List.mem_of_getElem? (i := 238) (by decide +kernel)⟩
theorem lw_p1 : lw_okq (⟨"LeapStones$Floods", "at", "(I)LLeapStones$River;"⟩, 2) := ⟨⟨by decide +kernel, by decide +kernel⟩, List.mem_of_getElem? (i := 70) (by decide +kernel), List.mem_of_getElem? (i := 280) (by decide +kernel), List.mem_of_getElem? (i := 281) (by decide +kernel)⟩
theorem lw_p2 : lw_okq (⟨"LeapStones$Crossing", "highestKey", "()I"⟩, 12) := ⟨⟨by decide +kernel, by decide +kernel⟩, List.mem_of_getElem? (i := 102) (by decide +kernel), List.mem_of_getElem? (i := 308) (by decide +kernel), List.mem_of_getElem? (i := 309) (by decide +kernel)⟩
theorem lw_p3 : lw_okq (⟨"LeapStones$Crossing", "meet", "(II)V"⟩, 12) := ⟨⟨by decide +kernel, by decide +kernel⟩, List.mem_of_getElem? (i := 102) (by decide +kernel), List.mem_of_getElem? (i := 467) (by decide +kernel), List.mem_of_getElem? (i := 468) (by decide +kernel)⟩
theorem lw_p4 : lw_okq (⟨"LeapStones$Crossing", "rowsTogether", "()I"⟩, 12) := ⟨⟨by decide +kernel, by decide +kernel⟩, List.mem_of_getElem? (i := 102) (by decide +kernel), List.mem_of_getElem? (i := 487) (by decide +kernel), List.mem_of_getElem? (i := 488) (by decide +kernel)⟩
theorem lw_p5 : lw_okq (⟨"LeapStones$Crossing", "nextToLeap", "(I)I"⟩, 12) := ⟨⟨by decide +kernel, by decide +kernel⟩, List.mem_of_getElem? (i := 102) (by decide +kernel), List.mem_of_getElem? (i := 596) (by decide +kernel), List.mem_of_getElem? (i := 597) (by decide +kernel)⟩
theorem lw_p6 : lw_okq (⟨"LeapStones$Path", "looksOneByOne", "(II)I"⟩, 3) := ⟨⟨by decide +kernel, by decide +kernel⟩, List.mem_of_getElem? (i := 44) (by decide +kernel), List.mem_of_getElem? (i := 610) (by decide +kernel), List.mem_of_getElem? (i := 611) (by decide +kernel)⟩
theorem lw_p7 : lw_okq (⟨"LeapStones$Path", "looksDoubling", "(II)I"⟩, 3) := ⟨⟨by decide +kernel, by decide +kernel⟩, List.mem_of_getElem? (i := 44) (by decide +kernel), List.mem_of_getElem? (i := 614) (by decide +kernel), List.mem_of_getElem? (i := 615) (by decide +kernel)⟩
theorem lw_p8 : lw_okq (⟨"LeapStones$Path", "looksHalving", "(III)I"⟩, 3) := ⟨⟨by decide +kernel, by decide +kernel⟩, List.mem_of_getElem? (i := 44) (by decide +kernel), List.mem_of_getElem? (i := 618) (by decide +kernel), List.mem_of_getElem? (i := 619) (by decide +kernel)⟩
theorem lw_p9 : lw_okq (⟨"LeapStones$Pad", "readWholeOrder", "()Z"⟩, 8) := ⟨⟨by decide +kernel, by decide +kernel⟩, List.mem_of_getElem? (i := 165) (by decide +kernel), List.mem_of_getElem? (i := 688) (by decide +kernel), List.mem_of_getElem? (i := 689) (by decide +kernel)⟩
theorem lw_p10 : lw_okq (⟨"LeapStones$Pad", "next", "()C"⟩, 8) := ⟨⟨by decide +kernel, by decide +kernel⟩, List.mem_of_getElem? (i := 165) (by decide +kernel), List.mem_of_getElem? (i := 696) (by decide +kernel), List.mem_of_getElem? (i := 697) (by decide +kernel)⟩
theorem lw_p11 : lw_okq (⟨"LeapStones$Pad", "readFlood", "()Z"⟩, 8) := ⟨⟨by decide +kernel, by decide +kernel⟩, List.mem_of_getElem? (i := 165) (by decide +kernel), List.mem_of_getElem? (i := 700) (by decide +kernel), List.mem_of_getElem? (i := 701) (by decide +kernel)⟩
theorem lw_p12 : lw_okq (⟨"LeapStones$Pad", "readWalker", "()Z"⟩, 8) := ⟨⟨by decide +kernel, by decide +kernel⟩, List.mem_of_getElem? (i := 165) (by decide +kernel), List.mem_of_getElem? (i := 708) (by decide +kernel), List.mem_of_getElem? (i := 709) (by decide +kernel)⟩
theorem lw_p13 : lw_okq (⟨"LeapStones$Pad", "readKey", "()I"⟩, 8) := ⟨⟨by decide +kernel, by decide +kernel⟩, List.mem_of_getElem? (i := 165) (by decide +kernel), List.mem_of_getElem? (i := 713) (by decide +kernel), List.mem_of_getElem? (i := 714) (by decide +kernel)⟩
theorem lw_p14 : lw_okq (⟨"LeapStones$Pad", "readRepeats", "()Z"⟩, 8) := ⟨⟨by decide +kernel, by decide +kernel⟩, List.mem_of_getElem? (i := 165) (by decide +kernel), List.mem_of_getElem? (i := 721) (by decide +kernel), List.mem_of_getElem? (i := 722) (by decide +kernel)⟩
theorem lw_p15 : lw_okq (⟨"LeapStones", "carryOrder", "()Z"⟩, 8) := ⟨⟨by decide +kernel, by decide +kernel⟩, List.mem_of_getElem? (i := 13) (by decide +kernel), List.mem_of_getElem? (i := 736) (by decide +kernel), List.mem_of_getElem? (i := 737) (by decide +kernel)⟩
def lw_privs_1 : List (MethodName × Nat) := [(⟨"LeapStones", "remember", "()V"⟩, 8), (⟨"LeapStones$Floods", "at", "(I)LLeapStones$River;"⟩, 2), (⟨"LeapStones$Crossing", "highestKey", "()I"⟩, 12), (⟨"LeapStones$Crossing", "meet", "(II)V"⟩, 12), (⟨"LeapStones$Crossing", "rowsTogether", "()I"⟩, 12), (⟨"LeapStones$Crossing", "nextToLeap", "(I)I"⟩, 12), (⟨"LeapStones$Path", "looksOneByOne", "(II)I"⟩, 3), (⟨"LeapStones$Path", "looksDoubling", "(II)I"⟩, 3), (⟨"LeapStones$Path", "looksHalving", "(III)I"⟩, 3), (⟨"LeapStones$Pad", "readWholeOrder", "()Z"⟩, 8), (⟨"LeapStones$Pad", "next", "()C"⟩, 8), (⟨"LeapStones$Pad", "readFlood", "()Z"⟩, 8), (⟨"LeapStones$Pad", "readWalker", "()Z"⟩, 8), (⟨"LeapStones$Pad", "readKey", "()I"⟩, 8), (⟨"LeapStones$Pad", "readRepeats", "()Z"⟩, 8), (⟨"LeapStones", "carryOrder", "()Z"⟩, 8)]
theorem lw_r1 : ∀ q ∈ lw_privs_1, lw_okq q := List.forall_mem_cons.mpr ⟨lw_p0, List.forall_mem_cons.mpr ⟨lw_p1, List.forall_mem_cons.mpr ⟨lw_p2, List.forall_mem_cons.mpr ⟨lw_p3, List.forall_mem_cons.mpr ⟨lw_p4, List.forall_mem_cons.mpr ⟨lw_p5, List.forall_mem_cons.mpr ⟨lw_p6, List.forall_mem_cons.mpr ⟨lw_p7, List.forall_mem_cons.mpr ⟨lw_p8, List.forall_mem_cons.mpr ⟨lw_p9, List.forall_mem_cons.mpr ⟨lw_p10, List.forall_mem_cons.mpr ⟨lw_p11, List.forall_mem_cons.mpr ⟨lw_p12, List.forall_mem_cons.mpr ⟨lw_p13, List.forall_mem_cons.mpr ⟨lw_p14, List.forall_mem_cons.mpr ⟨lw_p15, fun _ h => absurd h List.not_mem_nil⟩⟩⟩⟩⟩⟩⟩⟩⟩⟩⟩⟩⟩⟩⟩⟩
theorem lw_p16 : lw_okq (⟨"LeapStones", "carryStones", "()Z"⟩, 8) := ⟨⟨by decide +kernel, by decide +kernel⟩, List.mem_of_getElem? (i := 13) (by decide +kernel), List.mem_of_getElem? (i := 756) (by decide +kernel), List.mem_of_getElem? (i := 757) (by decide +kernel)⟩
theorem lw_p17 : lw_okq (⟨"LeapStones", "layRange", "(IIII)Z"⟩, 8) := ⟨⟨by decide +kernel, by decide +kernel⟩, List.mem_of_getElem? (i := 13) (by decide +kernel), List.mem_of_getElem? (i := 765) (by decide +kernel), List.mem_of_getElem? (i := 766) (by decide +kernel)⟩
theorem lw_p18 : lw_okq (⟨"LeapStones$River", "isShared", "(III)Z"⟩, 3) := ⟨⟨by decide +kernel, by decide +kernel⟩, List.mem_of_getElem? (i := 38) (by decide +kernel), List.mem_of_getElem? (i := 791) (by decide +kernel), List.mem_of_getElem? (i := 792) (by decide +kernel)⟩
theorem lw_p19 : lw_okq (⟨"LeapStones", "tryOut", "(II)V"⟩, 8) := ⟨⟨by decide +kernel, by decide +kernel⟩, List.mem_of_getElem? (i := 13) (by decide +kernel), List.mem_of_getElem? (i := 818) (by decide +kernel), List.mem_of_getElem? (i := 819) (by decide +kernel)⟩
def lw_privs_2 : List (MethodName × Nat) := [(⟨"LeapStones", "carryStones", "()Z"⟩, 8), (⟨"LeapStones", "layRange", "(IIII)Z"⟩, 8), (⟨"LeapStones$River", "isShared", "(III)Z"⟩, 3), (⟨"LeapStones", "tryOut", "(II)V"⟩, 8)]
theorem lw_r2 : ∀ q ∈ lw_privs_2, lw_okq q := List.forall_mem_cons.mpr ⟨lw_p16, List.forall_mem_cons.mpr ⟨lw_p17, List.forall_mem_cons.mpr ⟨lw_p18, List.forall_mem_cons.mpr ⟨lw_p19, fun _ h => absurd h List.not_mem_nil⟩⟩⟩⟩
def lw_privs : List (MethodName × Nat) := lw_privs_1 ++ (lw_privs_2)
def lw_tbl : List Cond := k2_sels lw_privs ++ tables_1
theorem lw_privs_ok : ∀ q ∈ lw_privs, lw_okq q := by
  show ∀ q ∈ lw_privs_1 ++ (lw_privs_2), lw_okq q
  exact List.forall_mem_append.mpr ⟨lw_r1, lw_r2⟩
-- ===== end of PART A; then your names; then what follows =====
def RX0 : String := "LeapStones$Crossing"
def TX0 : u_T := fun k => match k with
  | 0 => ("LeapStones$Crossing", "begun", "Z", false)
  | 1 => ("LeapStones$Crossing", "over", "Z", false)
  | 2 => ("LeapStones$Crossing", "goal", "I", false)
  | 3 => ("LeapStones$Crossing", "turn", "I", false)
  | 4 => ("LeapStones$Crossing", "meetings", "I", false)
  | 5 => ("LeapStones$Crossing", "meetingKeys", "[I", true)
  | 6 => ("LeapStones$Crossing", "meetingRows", "[I", true)
  | 7 => ("LeapStones$Crossing", "standing", "[I", true)
  | 8 => ("LeapStones$Crossing", "leaps", "[I", true)
  | 9 => ("LeapStones$Crossing", "looks", "[I", true)
  | 10 => ("LeapStones$Crossing", "slips", "[I", true)
  | _ => ("LeapStones$Crossing", "farthest", "[I", true)
def tyX0 : Nat → FieldType := fun k => match k with
  | 0 => .boolean
  | 1 => .boolean
  | 2 => .int
  | 3 => .int
  | 4 => .int
  | 5 => .array .int
  | 6 => .array .int
  | 7 => .array .int
  | 8 => .array .int
  | 9 => .array .int
  | 10 => .array .int
  | _ => .array .int
abbrev wsX00 : List Cond := u_ws RX0 TX0 12
theorem nmX0 : ∀ a, a < 12 → ∀ b, b < 12 → a ≠ b → (TX0 a).2.1 ≠ (TX0 b).2.1 := by decide +kernel
theorem tyX0_ok : ∀ k, k < 12 → parseFieldDescriptor (TX0 k).2.2.1 = some (tyX0 k) := by decide +kernel
abbrev cX0_init : ByteArray := prog_2_method_1_code
def yX0_init : MethodName := ⟨RX0, "<init>", "()V"⟩
abbrev cX0_isBegun : ByteArray := prog_2_method_2_code
def yX0_isBegun : MethodName := ⟨RX0, "isBegun", "()Z"⟩
abbrev cX0_isOver : ByteArray := prog_2_method_3_code
def yX0_isOver : MethodName := ⟨RX0, "isOver", "()Z"⟩
abbrev cX0_goesOn : ByteArray := prog_2_method_4_code
def yX0_goesOn : MethodName := ⟨RX0, "goesOn", "()Z"⟩
abbrev cX0_leaps : ByteArray := prog_2_method_5_code
def yX0_leaps : MethodName := ⟨RX0, "leaps", "()I"⟩
abbrev cX0_looks : ByteArray := prog_2_method_6_code
def yX0_looks : MethodName := ⟨RX0, "looks", "()I"⟩
abbrev cX0_meetings : ByteArray := prog_2_method_7_code
def yX0_meetings : MethodName := ⟨RX0, "meetings", "()I"⟩
abbrev cX0_keyUnder : ByteArray := prog_2_method_8_code
def yX0_keyUnder : MethodName := ⟨RX0, "keyUnder", "(I)I"⟩
abbrev cX0_keyOfMeeting : ByteArray := prog_2_method_9_code
def yX0_keyOfMeeting : MethodName := ⟨RX0, "keyOfMeeting", "(I)I"⟩
abbrev cX0_rowsOfMeeting : ByteArray := prog_2_method_10_code
def yX0_rowsOfMeeting : MethodName := ⟨RX0, "rowsOfMeeting", "(I)I"⟩
abbrev cX0_start : ByteArray := prog_2_method_11_code
def yX0_start : MethodName := ⟨RX0, "start", "(LLeapStones$River;LLeapStones$Settings;)V"⟩
abbrev cX0_step : ByteArray := prog_2_method_12_code
def yX0_step : MethodName := ⟨RX0, "step", "(LLeapStones$River;LLeapStones$Settings;)I"⟩
abbrev cX0_finish : ByteArray := prog_2_method_13_code
def yX0_finish : MethodName := ⟨RX0, "finish", "(LLeapStones$River;LLeapStones$Settings;)I"⟩
abbrev cX0_nextToLeap : ByteArray := prog_2_method_14_code
def yX0_nextToLeap : MethodName := ⟨RX0, "nextToLeap", "(I)I"⟩
abbrev cX0_lookRound : ByteArray := prog_2_method_15_code
def yX0_lookRound : MethodName := ⟨RX0, "lookRound", "(LLeapStones$River;I)V"⟩
abbrev cX0_meet : ByteArray := prog_2_method_16_code
def yX0_meet : MethodName := ⟨RX0, "meet", "(II)V"⟩
abbrev cX0_highestKey : ByteArray := prog_2_method_17_code
def yX0_highestKey : MethodName := ⟨RX0, "highestKey", "()I"⟩
abbrev cX0_endAbove : ByteArray := prog_2_method_18_code
def yX0_endAbove : MethodName := ⟨RX0, "endAbove", "(I)V"⟩
abbrev cX0_slip : ByteArray := prog_2_method_19_code
def yX0_slip : MethodName := ⟨RX0, "slip", "(LLeapStones$River;)V"⟩
abbrev cX0_figureOfWalker : ByteArray := prog_2_method_20_code
def yX0_figureOfWalker : MethodName := ⟨RX0, "figureOfWalker", "(II)I"⟩
abbrev cX0_figure : ByteArray := prog_2_method_21_code
def yX0_figure : MethodName := ⟨RX0, "figure", "(I)I"⟩
abbrev cX0_rowsTogether : ByteArray := prog_2_method_22_code
def yX0_rowsTogether : MethodName := ⟨RX0, "rowsTogether", "()I"⟩
abbrev cX0_copyFrom : ByteArray := prog_2_method_23_code
def yX0_copyFrom : MethodName := ⟨RX0, "copyFrom", "(LLeapStones$Crossing;)V"⟩
def RX1 : String := "LeapStones$Floods"
def TX1 : u_T := fun k => match k with
  | 0 => ("LeapStones$Floods", "taken", "[LLeapStones$River;", true)
  | _ => ("LeapStones$Floods", "ring", "LLeapStones$Ring;", true)
def tyX1 : Nat → FieldType := fun k => match k with
  | 0 => .array (.object "LeapStones$River")
  | _ => .object "LeapStones$Ring"
abbrev wsX10 : List Cond := u_ws RX1 TX1 2
theorem nmX1 : ∀ a, a < 2 → ∀ b, b < 2 → a ≠ b → (TX1 a).2.1 ≠ (TX1 b).2.1 := by decide +kernel
theorem tyX1_ok : ∀ k, k < 2 → parseFieldDescriptor (TX1 k).2.2.1 = some (tyX1 k) := by decide +kernel
abbrev cX1_init : ByteArray := prog_3_method_1_code
def yX1_init : MethodName := ⟨RX1, "<init>", "()V"⟩
abbrev cX1_kept : ByteArray := prog_3_method_2_code
def yX1_kept : MethodName := ⟨RX1, "kept", "()I"⟩
abbrev cX1_at : ByteArray := prog_3_method_3_code
def yX1_at : MethodName := ⟨RX1, "at", "(I)LLeapStones$River;"⟩
abbrev cX1_addEmpty : ByteArray := prog_3_method_4_code
def yX1_addEmpty : MethodName := ⟨RX1, "addEmpty", "()LLeapStones$River;"⟩
abbrev cX1_latest : ByteArray := prog_3_method_5_code
def yX1_latest : MethodName := ⟨RX1, "latest", "()LLeapStones$River;"⟩
abbrev cX1_dropLatest : ByteArray := prog_3_method_6_code
def yX1_dropLatest : MethodName := ⟨RX1, "dropLatest", "()V"⟩
abbrev cX1_copyFrom : ByteArray := prog_3_method_7_code
def yX1_copyFrom : MethodName := ⟨RX1, "copyFrom", "(LLeapStones$Floods;)V"⟩
def RX2 : String := "LeapStones$Pad"
def TX2 : u_T := fun k => match k with
  | 0 => ("LeapStones$Pad", "signs", "[C", true)
  | 1 => ("LeapStones$Pad", "length", "I", false)
  | 2 => ("LeapStones$Pad", "at", "I", false)
  | 3 => ("LeapStones$Pad", "kind", "C", false)
  | 4 => ("LeapStones$Pad", "walker", "I", false)
  | 5 => ("LeapStones$Pad", "from", "I", false)
  | 6 => ("LeapStones$Pad", "to", "I", false)
  | _ => ("LeapStones$Pad", "repeats", "I", false)
def tyX2 : Nat → FieldType := fun k => match k with
  | 0 => .array .char
  | 1 => .int
  | 2 => .int
  | 3 => .char
  | 4 => .int
  | 5 => .int
  | 6 => .int
  | _ => .int
abbrev wsX20 : List Cond := u_ws RX2 TX2 8
theorem nmX2 : ∀ a, a < 8 → ∀ b, b < 8 → a ≠ b → (TX2 a).2.1 ≠ (TX2 b).2.1 := by decide +kernel
theorem tyX2_ok : ∀ k, k < 8 → parseFieldDescriptor (TX2 k).2.2.1 = some (tyX2 k) := by decide +kernel
abbrev cX2_init : ByteArray := prog_4_method_1_code
def yX2_init : MethodName := ⟨RX2, "<init>", "()V"⟩
abbrev cX2_length : ByteArray := prog_4_method_2_code
def yX2_length : MethodName := ⟨RX2, "length", "()I"⟩
abbrev cX2_kind : ByteArray := prog_4_method_3_code
def yX2_kind : MethodName := ⟨RX2, "kind", "()C"⟩
abbrev cX2_walker : ByteArray := prog_4_method_4_code
def yX2_walker : MethodName := ⟨RX2, "walker", "()I"⟩
abbrev cX2_from : ByteArray := prog_4_method_5_code
def yX2_from : MethodName := ⟨RX2, "from", "()I"⟩
abbrev cX2_to : ByteArray := prog_4_method_6_code
def yX2_to : MethodName := ⟨RX2, "to", "()I"⟩
abbrev cX2_repeats : ByteArray := prog_4_method_7_code
def yX2_repeats : MethodName := ⟨RX2, "repeats", "()I"⟩
abbrev cX2_append : ByteArray := prog_4_method_8_code
def yX2_append : MethodName := ⟨RX2, "append", "(C)V"⟩
abbrev cX2_clear : ByteArray := prog_4_method_9_code
def yX2_clear : MethodName := ⟨RX2, "clear", "()V"⟩
abbrev cX2_rewind : ByteArray := prog_4_method_10_code
def yX2_rewind : MethodName := ⟨RX2, "rewind", "()V"⟩
abbrev cX2_firstFault : ByteArray := prog_4_method_11_code
def yX2_firstFault : MethodName := ⟨RX2, "firstFault", "()I"⟩
abbrev cX2_readWholeOrder : ByteArray := prog_4_method_12_code
def yX2_readWholeOrder : MethodName := ⟨RX2, "readWholeOrder", "()Z"⟩
abbrev cX2_readOrder : ByteArray := prog_4_method_13_code
def yX2_readOrder : MethodName := ⟨RX2, "readOrder", "()Z"⟩
abbrev cX2_readFlood : ByteArray := prog_4_method_14_code
def yX2_readFlood : MethodName := ⟨RX2, "readFlood", "()Z"⟩
abbrev cX2_readWalker : ByteArray := prog_4_method_15_code
def yX2_readWalker : MethodName := ⟨RX2, "readWalker", "()Z"⟩
abbrev cX2_readStones : ByteArray := prog_4_method_16_code
def yX2_readStones : MethodName := ⟨RX2, "readStones", "()Z"⟩
abbrev cX2_readRepeats : ByteArray := prog_4_method_17_code
def yX2_readRepeats : MethodName := ⟨RX2, "readRepeats", "()Z"⟩
abbrev cX2_readKey : ByteArray := prog_4_method_18_code
def yX2_readKey : MethodName := ⟨RX2, "readKey", "()I"⟩
abbrev cX2_pass : ByteArray := prog_4_method_19_code
def yX2_pass : MethodName := ⟨RX2, "pass", "(C)Z"⟩
abbrev cX2_next : ByteArray := prog_4_method_20_code
def yX2_next : MethodName := ⟨RX2, "next", "()C"⟩
def RX3 : String := "LeapStones$Path"
def TX3 : u_T := fun k => match k with
  | 0 => ("LeapStones$Path", "keys", "[I", true)
  | 1 => ("LeapStones$Path", "repeats", "[I", true)
  | _ => ("LeapStones$Path", "size", "I", false)
def tyX3 : Nat → FieldType := fun k => match k with
  | 0 => .array .int
  | 1 => .array .int
  | _ => .int
abbrev wsX30 : List Cond := u_ws RX3 TX3 3
theorem nmX3 : ∀ a, a < 3 → ∀ b, b < 3 → a ≠ b → (TX3 a).2.1 ≠ (TX3 b).2.1 := by decide +kernel
theorem tyX3_ok : ∀ k, k < 3 → parseFieldDescriptor (TX3 k).2.2.1 = some (tyX3 k) := by decide +kernel
abbrev cX3_init : ByteArray := prog_5_method_1_code
def yX3_init : MethodName := ⟨RX3, "<init>", "()V"⟩
abbrev cX3_size : ByteArray := prog_5_method_2_code
def yX3_size : MethodName := ⟨RX3, "size", "()I"⟩
abbrev cX3_placeFrom : ByteArray := prog_5_method_3_code
def yX3_placeFrom : MethodName := ⟨RX3, "placeFrom", "(I)I"⟩
abbrev cX3_keyAt : ByteArray := prog_5_method_4_code
def yX3_keyAt : MethodName := ⟨RX3, "keyAt", "(I)I"⟩
abbrev cX3_repeatsAt : ByteArray := prog_5_method_5_code
def yX3_repeatsAt : MethodName := ⟨RX3, "repeatsAt", "(I)I"⟩
abbrev cX3_firstKeyFrom : ByteArray := prog_5_method_6_code
def yX3_firstKeyFrom : MethodName := ⟨RX3, "firstKeyFrom", "(I)I"⟩
abbrev cX3_repeatsOf : ByteArray := prog_5_method_7_code
def yX3_repeatsOf : MethodName := ⟨RX3, "repeatsOf", "(I)I"⟩
abbrev cX3_has : ByteArray := prog_5_method_8_code
def yX3_has : MethodName := ⟨RX3, "has", "(I)Z"⟩
abbrev cX3_hasRoomFor : ByteArray := prog_5_method_9_code
def yX3_hasRoomFor : MethodName := ⟨RX3, "hasRoomFor", "(I)Z"⟩
abbrev cX3_lay : ByteArray := prog_5_method_10_code
def yX3_lay : MethodName := ⟨RX3, "lay", "(II)V"⟩
abbrev cX3_moveTo : ByteArray := prog_5_method_11_code
def yX3_moveTo : MethodName := ⟨RX3, "moveTo", "(LLeapStones$Path;II)V"⟩
abbrev cX3_hasRoomForAll : ByteArray := prog_5_method_12_code
def yX3_hasRoomForAll : MethodName := ⟨RX3, "hasRoomForAll", "(LLeapStones$Path;)Z"⟩
abbrev cX3_addAll : ByteArray := prog_5_method_13_code
def yX3_addAll : MethodName := ⟨RX3, "addAll", "(LLeapStones$Path;)V"⟩
abbrev cX3_looksFor : ByteArray := prog_5_method_14_code
def yX3_looksFor : MethodName := ⟨RX3, "looksFor", "(III)I"⟩
abbrev cX3_looksOneByOne : ByteArray := prog_5_method_15_code
def yX3_looksOneByOne : MethodName := ⟨RX3, "looksOneByOne", "(II)I"⟩
abbrev cX3_looksDoubling : ByteArray := prog_5_method_16_code
def yX3_looksDoubling : MethodName := ⟨RX3, "looksDoubling", "(II)I"⟩
abbrev cX3_looksHalving : ByteArray := prog_5_method_17_code
def yX3_looksHalving : MethodName := ⟨RX3, "looksHalving", "(III)I"⟩
abbrev cX3_clear : ByteArray := prog_5_method_18_code
def yX3_clear : MethodName := ⟨RX3, "clear", "()V"⟩
abbrev cX3_copyFrom : ByteArray := prog_5_method_19_code
def yX3_copyFrom : MethodName := ⟨RX3, "copyFrom", "(LLeapStones$Path;)V"⟩
def RX4 : String := "LeapStones$Ring"
def TX4 : u_T := fun k => match k with
  | 0 => ("LeapStones$Ring", "places", "I", true)
  | 1 => ("LeapStones$Ring", "next", "I", false)
  | _ => ("LeapStones$Ring", "kept", "I", false)
def tyX4 : Nat → FieldType := fun k => match k with
  | 0 => .int
  | 1 => .int
  | _ => .int
abbrev wsX40 : List Cond := u_ws RX4 TX4 3
theorem nmX4 : ∀ a, a < 3 → ∀ b, b < 3 → a ≠ b → (TX4 a).2.1 ≠ (TX4 b).2.1 := by decide +kernel
theorem tyX4_ok : ∀ k, k < 3 → parseFieldDescriptor (TX4 k).2.2.1 = some (tyX4 k) := by decide +kernel
abbrev cX4_init : ByteArray := prog_6_method_1_code
def yX4_init : MethodName := ⟨RX4, "<init>", "(I)V"⟩
abbrev cX4_kept : ByteArray := prog_6_method_2_code
def yX4_kept : MethodName := ⟨RX4, "kept", "()I"⟩
abbrev cX4_add : ByteArray := prog_6_method_3_code
def yX4_add : MethodName := ⟨RX4, "add", "()I"⟩
abbrev cX4_latest : ByteArray := prog_6_method_4_code
def yX4_latest : MethodName := ⟨RX4, "latest", "()I"⟩
abbrev cX4_dropLatest : ByteArray := prog_6_method_5_code
def yX4_dropLatest : MethodName := ⟨RX4, "dropLatest", "()V"⟩
abbrev cX4_copyFrom : ByteArray := prog_6_method_6_code
def yX4_copyFrom : MethodName := ⟨RX4, "copyFrom", "(LLeapStones$Ring;)V"⟩
def RX5 : String := "LeapStones$River"
def TX5 : u_T := fun k => match k with
  | 0 => ("LeapStones$River", "first", "LLeapStones$Path;", true)
  | 1 => ("LeapStones$River", "second", "LLeapStones$Path;", true)
  | _ => ("LeapStones$River", "third", "LLeapStones$Path;", true)
def tyX5 : Nat → FieldType := fun k => match k with
  | 0 => .object "LeapStones$Path"
  | 1 => .object "LeapStones$Path"
  | _ => .object "LeapStones$Path"
abbrev wsX50 : List Cond := u_ws RX5 TX5 3
theorem nmX5 : ∀ a, a < 3 → ∀ b, b < 3 → a ≠ b → (TX5 a).2.1 ≠ (TX5 b).2.1 := by decide +kernel
theorem tyX5_ok : ∀ k, k < 3 → parseFieldDescriptor (TX5 k).2.2.1 = some (tyX5 k) := by decide +kernel
abbrev cX5_init : ByteArray := prog_7_method_1_code
def yX5_init : MethodName := ⟨RX5, "<init>", "()V"⟩
abbrev cX5_pathOf : ByteArray := prog_7_method_2_code
def yX5_pathOf : MethodName := ⟨RX5, "pathOf", "(I)LLeapStones$Path;"⟩
abbrev cX5_stones : ByteArray := prog_7_method_3_code
def yX5_stones : MethodName := ⟨RX5, "stones", "()I"⟩
abbrev cX5_rowsAt : ByteArray := prog_7_method_4_code
def yX5_rowsAt : MethodName := ⟨RX5, "rowsAt", "(I)I"⟩
abbrev cX5_isShared : ByteArray := prog_7_method_5_code
def yX5_isShared : MethodName := ⟨RX5, "isShared", "(III)Z"⟩
abbrev cX5_sharedKeys : ByteArray := prog_7_method_6_code
def yX5_sharedKeys : MethodName := ⟨RX5, "sharedKeys", "(II)I"⟩
abbrev cX5_rowsBetween : ByteArray := prog_7_method_7_code
def yX5_rowsBetween : MethodName := ⟨RX5, "rowsBetween", "(II)I"⟩
abbrev cX5_firstShared : ByteArray := prog_7_method_8_code
def yX5_firstShared : MethodName := ⟨RX5, "firstShared", "(II)I"⟩
abbrev cX5_lastShared : ByteArray := prog_7_method_9_code
def yX5_lastShared : MethodName := ⟨RX5, "lastShared", "(II)I"⟩
abbrev cX5_widestGap : ByteArray := prog_7_method_10_code
def yX5_widestGap : MethodName := ⟨RX5, "widestGap", "(II)I"⟩
abbrev cX5_clear : ByteArray := prog_7_method_11_code
def yX5_clear : MethodName := ⟨RX5, "clear", "()V"⟩
abbrev cX5_copyFrom : ByteArray := prog_7_method_12_code
def yX5_copyFrom : MethodName := ⟨RX5, "copyFrom", "(LLeapStones$River;)V"⟩
def RX6 : String := "LeapStones$Scene"
def TX6 : u_T := fun k => match k with
  | 0 => ("LeapStones$Scene", "settings", "LLeapStones$Settings;", true)
  | 1 => ("LeapStones$Scene", "river", "LLeapStones$River;", true)
  | 2 => ("LeapStones$Scene", "floods", "LLeapStones$Floods;", true)
  | _ => ("LeapStones$Scene", "crossing", "LLeapStones$Crossing;", true)
def tyX6 : Nat → FieldType := fun k => match k with
  | 0 => .object "LeapStones$Settings"
  | 1 => .object "LeapStones$River"
  | 2 => .object "LeapStones$Floods"
  | _ => .object "LeapStones$Crossing"
abbrev wsX60 : List Cond := u_ws RX6 TX6 4
theorem nmX6 : ∀ a, a < 4 → ∀ b, b < 4 → a ≠ b → (TX6 a).2.1 ≠ (TX6 b).2.1 := by decide +kernel
theorem tyX6_ok : ∀ k, k < 4 → parseFieldDescriptor (TX6 k).2.2.1 = some (tyX6 k) := by decide +kernel
abbrev cX6_init : ByteArray := prog_8_method_1_code
def yX6_init : MethodName := ⟨RX6, "<init>", "()V"⟩
abbrev cX6_changeSetting : ByteArray := prog_8_method_2_code
def yX6_changeSetting : MethodName := ⟨RX6, "changeSetting", "(II)I"⟩
abbrev cX6_errorOfLaying : ByteArray := prog_8_method_3_code
def yX6_errorOfLaying : MethodName := ⟨RX6, "errorOfLaying", "(III)I"⟩
abbrev cX6_lay : ByteArray := prog_8_method_4_code
def yX6_lay : MethodName := ⟨RX6, "lay", "(III)I"⟩
abbrev cX6_errorOfFlooding : ByteArray := prog_8_method_5_code
def yX6_errorOfFlooding : MethodName := ⟨RX6, "errorOfFlooding", "(III)I"⟩
abbrev cX6_takeAway : ByteArray := prog_8_method_6_code
def yX6_takeAway : MethodName := ⟨RX6, "takeAway", "(III)I"⟩
abbrev cX6_errorOfDrying : ByteArray := prog_8_method_7_code
def yX6_errorOfDrying : MethodName := ⟨RX6, "errorOfDrying", "()I"⟩
abbrev cX6_giveBack : ByteArray := prog_8_method_8_code
def yX6_giveBack : MethodName := ⟨RX6, "giveBack", "()I"⟩
abbrev cX6_start : ByteArray := prog_8_method_9_code
def yX6_start : MethodName := ⟨RX6, "start", "()I"⟩
abbrev cX6_step : ByteArray := prog_8_method_10_code
def yX6_step : MethodName := ⟨RX6, "step", "()I"⟩
abbrev cX6_copyFrom : ByteArray := prog_8_method_11_code
def yX6_copyFrom : MethodName := ⟨RX6, "copyFrom", "(LLeapStones$Scene;)V"⟩
def RX7 : String := "LeapStones$Settings"
def TX7 : u_T := fun k => match k with
  | _ => ("LeapStones$Settings", "values", "[I", true)
def tyX7 : Nat → FieldType := fun k => match k with
  | _ => .array .int
abbrev wsX70 : List Cond := u_ws RX7 TX7 1
theorem nmX7 : ∀ a, a < 1 → ∀ b, b < 1 → a ≠ b → (TX7 a).2.1 ≠ (TX7 b).2.1 := by decide +kernel
theorem tyX7_ok : ∀ k, k < 1 → parseFieldDescriptor (TX7 k).2.2.1 = some (tyX7 k) := by decide +kernel
abbrev cX7_init : ByteArray := prog_9_method_1_code
def yX7_init : MethodName := ⟨RX7, "<init>", "()V"⟩
abbrev cX7_valueOf : ByteArray := prog_9_method_2_code
def yX7_valueOf : MethodName := ⟨RX7, "valueOf", "(I)I"⟩
abbrev cX7_change : ByteArray := prog_9_method_3_code
def yX7_change : MethodName := ⟨RX7, "change", "(II)V"⟩
abbrev cX7_copyFrom : ByteArray := prog_9_method_4_code
def yX7_copyFrom : MethodName := ⟨RX7, "copyFrom", "(LLeapStones$Settings;)V"⟩
def RX8 : String := "LeapStones"
def TX8 : u_T := fun k => match k with
  | 0 => ("LeapStones", "now", "LLeapStones$Scene;", true)
  | 1 => ("LeapStones", "past", "[LLeapStones$Scene;", true)
  | 2 => ("LeapStones", "changes", "LLeapStones$Ring;", true)
  | 3 => ("LeapStones", "slots", "[LLeapStones$Scene;", true)
  | 4 => ("LeapStones", "saved", "[Z", true)
  | 5 => ("LeapStones", "pad", "LLeapStones$Pad;", true)
  | 6 => ("LeapStones", "trial", "LLeapStones$Crossing;", true)
  | _ => ("LeapStones", "trialSettings", "LLeapStones$Settings;", true)
def tyX8 : Nat → FieldType := fun k => match k with
  | 0 => .object "LeapStones$Scene"
  | 1 => .array (.object "LeapStones$Scene")
  | 2 => .object "LeapStones$Ring"
  | 3 => .array (.object "LeapStones$Scene")
  | 4 => .array .boolean
  | 5 => .object "LeapStones$Pad"
  | 6 => .object "LeapStones$Crossing"
  | _ => .object "LeapStones$Settings"
abbrev wsX80 : List Cond := u_ws RX8 TX8 8
theorem nmX8 : ∀ a, a < 8 → ∀ b, b < 8 → a ≠ b → (TX8 a).2.1 ≠ (TX8 b).2.1 := by decide +kernel
theorem tyX8_ok : ∀ k, k < 8 → parseFieldDescriptor (TX8 k).2.2.1 = some (tyX8 k) := by decide +kernel
abbrev cX8_init : ByteArray := prog_1_method_1_code
def yX8_init : MethodName := ⟨RX8, "<init>", "()V"⟩
abbrev cX8_set : ByteArray := prog_1_method_2_code
def yX8_set : MethodName := ⟨RX8, "set", "(II)I"⟩
abbrev cX8_stone : ByteArray := prog_1_method_3_code
def yX8_stone : MethodName := ⟨RX8, "stone", "(III)I"⟩
abbrev cX8_flood : ByteArray := prog_1_method_4_code
def yX8_flood : MethodName := ⟨RX8, "flood", "(III)I"⟩
abbrev cX8_dry : ByteArray := prog_1_method_5_code
def yX8_dry : MethodName := ⟨RX8, "dry", "()I"⟩
abbrev cX8_begin : ByteArray := prog_1_method_6_code
def yX8_begin : MethodName := ⟨RX8, "begin", "()I"⟩
abbrev cX8_leap : ByteArray := prog_1_method_7_code
def yX8_leap : MethodName := ⟨RX8, "leap", "()I"⟩
abbrev cX8_run : ByteArray := prog_1_method_8_code
def yX8_run : MethodName := ⟨RX8, "run", "()I"⟩
abbrev cX8_ofWalker : ByteArray := prog_1_method_9_code
def yX8_ofWalker : MethodName := ⟨RX8, "ofWalker", "(II)I"⟩
abbrev cX8_ofStone : ByteArray := prog_1_method_10_code
def yX8_ofStone : MethodName := ⟨RX8, "ofStone", "(III)I"⟩
abbrev cX8_ofRun : ByteArray := prog_1_method_11_code
def yX8_ofRun : MethodName := ⟨RX8, "ofRun", "(I)I"⟩
abbrev cX8_meeting : ByteArray := prog_1_method_12_code
def yX8_meeting : MethodName := ⟨RX8, "meeting", "(II)I"⟩
abbrev cX8_count : ByteArray := prog_1_method_13_code
def yX8_count : MethodName := ⟨RX8, "count", "(I)I"⟩
abbrev cX8_walking : ByteArray := prog_1_method_14_code
def yX8_walking : MethodName := ⟨RX8, "walking", "(I)I"⟩
abbrev cX8_runWith : ByteArray := prog_1_method_15_code
def yX8_runWith : MethodName := ⟨RX8, "runWith", "(III)I"⟩
abbrev cX8_cheapest : ByteArray := prog_1_method_16_code
def yX8_cheapest : MethodName := ⟨RX8, "cheapest", "(I)I"⟩
abbrev cX8_lostBy : ByteArray := prog_1_method_17_code
def yX8_lostBy : MethodName := ⟨RX8, "lostBy", "(II)I"⟩
abbrev cX8_put : ByteArray := prog_1_method_18_code
def yX8_put : MethodName := ⟨RX8, "put", "(J)I"⟩
abbrev cX8_wipe : ByteArray := prog_1_method_19_code
def yX8_wipe : MethodName := ⟨RX8, "wipe", "()I"⟩
abbrev cX8_fault : ByteArray := prog_1_method_20_code
def yX8_fault : MethodName := ⟨RX8, "fault", "()I"⟩
abbrev cX8_carryOut : ByteArray := prog_1_method_21_code
def yX8_carryOut : MethodName := ⟨RX8, "carryOut", "()I"⟩
abbrev cX8_undo : ByteArray := prog_1_method_22_code
def yX8_undo : MethodName := ⟨RX8, "undo", "()I"⟩
abbrev cX8_save : ByteArray := prog_1_method_23_code
def yX8_save : MethodName := ⟨RX8, "save", "(I)I"⟩
abbrev cX8_restore : ByteArray := prog_1_method_24_code
def yX8_restore : MethodName := ⟨RX8, "restore", "(I)I"⟩
abbrev cX8_remember : ByteArray := prog_1_method_25_code
def yX8_remember : MethodName := ⟨RX8, "remember", "()V"⟩
abbrev cX8_tryOut : ByteArray := prog_1_method_26_code
def yX8_tryOut : MethodName := ⟨RX8, "tryOut", "(II)V"⟩
abbrev cX8_carryOrder : ByteArray := prog_1_method_27_code
def yX8_carryOrder : MethodName := ⟨RX8, "carryOrder", "()Z"⟩
abbrev cX8_carryStones : ByteArray := prog_1_method_28_code
def yX8_carryStones : MethodName := ⟨RX8, "carryStones", "()Z"⟩
abbrev cX8_layRange : ByteArray := prog_1_method_29_code
def yX8_layRange : MethodName := ⟨RX8, "layRange", "(IIII)Z"⟩
abbrev cX8_signsIn : ByteArray := prog_1_method_30_code
def yX8_signsIn : MethodName := ⟨RX8, "signsIn", "(J)I"⟩
abbrev cX8_signOf : ByteArray := prog_1_method_31_code
def yX8_signOf : MethodName := ⟨RX8, "signOf", "(JI)C"⟩
abbrev cX8_isBetween : ByteArray := prog_1_method_32_code
def yX8_isBetween : MethodName := ⟨RX8, "isBetween", "(III)Z"⟩
abbrev cX8_isWalker : ByteArray := prog_1_method_33_code
def yX8_isWalker : MethodName := ⟨RX8, "isWalker", "(I)Z"⟩
abbrev cX8_isSlot : ByteArray := prog_1_method_34_code
def yX8_isSlot : MethodName := ⟨RX8, "isSlot", "(I)Z"⟩
abbrev cX8_isRange : ByteArray := prog_1_method_35_code
def yX8_isRange : MethodName := ⟨RX8, "isRange", "(II)Z"⟩
abbrev cX8_highestValue : ByteArray := prog_1_method_36_code
def yX8_highestValue : MethodName := ⟨RX8, "highestValue", "(I)I"⟩
abbrev cX8_walkerInTurn : ByteArray := prog_1_method_37_code
def yX8_walkerInTurn : MethodName := ⟨RX8, "walkerInTurn", "(II)I"⟩
abbrev cX8_walkerBehind : ByteArray := prog_1_method_38_code
def yX8_walkerBehind : MethodName := ⟨RX8, "walkerBehind", "(III)I"⟩
abbrev cX8_copyRow : ByteArray := prog_1_method_39_code
def yX8_copyRow : MethodName := ⟨RX8, "copyRow", "([I[II)V"⟩
abbrev cX8_sumOf : ByteArray := prog_1_method_40_code
def yX8_sumOf : MethodName := ⟨RX8, "sumOf", "([I)I"⟩
def RL : String := "LeapStonesLaw"
abbrev cL_cell : ByteArray := method_2_code
def yL_cell : MethodName := ⟨RL, "cell", "([II)I"⟩
abbrev cL_up : ByteArray := method_3_code
def yL_up : MethodName := ⟨RL, "up", "(II)I"⟩
abbrev cL_law : ByteArray := code
def yL_law : MethodName := ⟨RL, "law", "([I)Z"⟩
abbrev cL_print : ByteArray := method_5_code
def yL_print : MethodName := ⟨RL, "print", "(LLeapStones;)J"⟩
abbrev cL_from : ByteArray := method_6_code
def yL_from : MethodName := ⟨RL, "from", "(LLeapStones;II)I"⟩
abbrev cL_repeats : ByteArray := method_7_code
def yL_repeats : MethodName := ⟨RL, "repeats", "(LLeapStones;II)I"⟩
abbrev cL_inTurn : ByteArray := method_8_code
def yL_inTurn : MethodName := ⟨RL, "inTurn", "(II)I"⟩
abbrev cL_act : ByteArray := method_9_code
def yL_act : MethodName := ⟨RL, "act", "(LLeapStones;IIII)Z"⟩
abbrev cL_flood : ByteArray := method_10_code
def yL_flood : MethodName := ⟨RL, "flood", "(LLeapStones;III)Z"⟩
abbrev cL_leap : ByteArray := method_11_code
def yL_leap : MethodName := ⟨RL, "leap", "(LLeapStones;)Z"⟩
abbrev cL_type : ByteArray := method_12_code
def yL_type : MethodName := ⟨RL, "type", "(LLeapStones;IIIIIIII)Z"⟩
abbrev cL_text : ByteArray := method_13_code
def yL_text : MethodName := ⟨RL, "text", "(LLeapStones;II)Z"⟩
abbrev cL_sound : ByteArray := method_14_code
def yL_sound : MethodName := ⟨RL, "sound", "(LLeapStones;)Z"⟩
abbrev cL_comes : ByteArray := method_15_code
def yL_comes : MethodName := ⟨RL, "comes", "(LLeapStones;II)Z"⟩
abbrev cL_back : ByteArray := method_16_code
def yL_back : MethodName := ⟨RL, "back", "(LLeapStones;I)Z"⟩
abbrev cL_refused : ByteArray := method_17_code
def yL_refused : MethodName := ⟨RL, "refused", "(LLeapStones;I)Z"⟩
abbrev vwCl : List vw_C := [(RX0, TX0, 12), (RX1, TX1, 2), (RX2, TX2, 8), (RX3, TX3, 3), (RX4, TX4, 3), (RX5, TX5, 3), (RX6, TX6, 4), (RX7, TX7, 1), (RX8, TX8, 8), (RX8, TX8, 8)]
def lw_g : List Cond := lw_tbl.filter goodWord
theorem lw_gm {w : Cond} (i : Nat) (h : lw_tbl[i]? = some w) (hg : goodWord w = true) : w ∈ lw_g := List.mem_filter.mpr ⟨List.mem_of_getElem? h, hg⟩
theorem lw_gl (ws : List Cond) (ps : List Nat) (hp : ps.map (fun i => lw_tbl[i]?) = ws.map some) (h : ws.all goodWord = true) : ∀ w ∈ ws, w ∈ lw_g := by
  intro w hw
  have h1 : some w ∈ ps.map (fun i => lw_tbl[i]?) := by rw [hp]; exact List.mem_map.mpr ⟨w, hw, rfl⟩
  obtain ⟨i, -, hi⟩ := List.mem_map.mp h1
  exact lw_gm i hi (List.all_eq_true.mp h w hw)
set_option maxRecDepth 100000 in
theorem inX0 : ∀ w ∈ wsX00, w ∈ lw_g := lw_gl _ [139, 141, 143, 145, 147, 149, 151, 153, 155, 157, 159, 161] (by decide +kernel) (by decide +kernel)
set_option maxRecDepth 100000 in
theorem inX1 : ∀ w ∈ wsX10, w ∈ lw_g := lw_gl _ [116, 118] (by decide +kernel) (by decide +kernel)
set_option maxRecDepth 100000 in
theorem inX2 : ∀ w ∈ wsX20, w ∈ lw_g := lw_gl _ [198, 200, 202, 204, 206, 208, 210, 212] (by decide +kernel) (by decide +kernel)
set_option maxRecDepth 100000 in
theorem inX3 : ∀ w ∈ wsX30, w ∈ lw_g := lw_gl _ [72, 74, 76] (by decide +kernel) (by decide +kernel)
set_option maxRecDepth 100000 in
theorem inX4 : ∀ w ∈ wsX40, w ∈ lw_g := lw_gl _ [106, 108, 110] (by decide +kernel) (by decide +kernel)
set_option maxRecDepth 100000 in
theorem inX5 : ∀ w ∈ wsX50, w ∈ lw_g := lw_gl _ [82, 84, 86] (by decide +kernel) (by decide +kernel)
set_option maxRecDepth 100000 in
theorem inX6 : ∀ w ∈ wsX60, w ∈ lw_g := lw_gl _ [172, 174, 176, 178] (by decide +kernel) (by decide +kernel)
set_option maxRecDepth 100000 in
theorem inX7 : ∀ w ∈ wsX70, w ∈ lw_g := lw_gl _ [53] (by decide +kernel) (by decide +kernel)
set_option maxRecDepth 100000 in
theorem inX8 : ∀ w ∈ wsX80, w ∈ lw_g := lw_gl _ [229, 231, 233, 235, 237, 239, 241, 243] (by decide +kernel) (by decide +kernel)
def nws : List Cond := [.methodLinkNest "LeapStones" 11 ⟨"LeapStones$Scene", "<init>", "()V"⟩ "LeapStones", .methodLinkNest "LeapStones$Scene" 11 ⟨"LeapStones$Settings", "<init>", "()V"⟩ "LeapStones", .methodLinkNest "LeapStones$Scene" 20 ⟨"LeapStones$River", "<init>", "()V"⟩ "LeapStones", .methodLinkNest "LeapStones$River" 11 ⟨"LeapStones$Path", "<init>", "()V"⟩ "LeapStones", .methodLinkNest "LeapStones$Floods" 26 ⟨"LeapStones$River", "<init>", "()V"⟩ "LeapStones", .methodLinkNest "LeapStones$Scene" 34 ⟨"LeapStones$Crossing", "<init>", "()V"⟩ "LeapStones", .fieldLinkNest "LeapStones" 109 "LeapStones$Scene" "settings" "LLeapStones$Settings;" "LeapStones", .fieldLinkNest "LeapStones" 105 "LeapStones$Scene" "river" "LLeapStones$River;" "LeapStones", .fieldLinkNest "LeapStones" 164 "LeapStones$Scene" "floods" "LLeapStones$Floods;" "LeapStones", .fieldLinkNest "LeapStones" 95 "LeapStones$Scene" "crossing" "LLeapStones$Crossing;" "LeapStones", .methodLinkNest "LeapStones" 38 ⟨"LeapStones$Pad", "<init>", "()V"⟩ "LeapStones", .methodLinkNest "LeapStones" 45 ⟨"LeapStones$Crossing", "<init>", "()V"⟩ "LeapStones", .methodLinkNest "LeapStones" 52 ⟨"LeapStones$Settings", "<init>", "()V"⟩ "LeapStones", .methodLinkNest "LeapStones$Settings" 19 ⟨"LeapStones", "copyRow", "([I[II)V"⟩ "LeapStones", .methodLinkNest "LeapStones$Path" 60 ⟨"LeapStones", "copyRow", "([I[II)V"⟩ "LeapStones", .methodLinkNest "LeapStones$Floods" 31 ⟨"LeapStones", "isBetween", "(III)Z"⟩ "LeapStones", .methodLinkNest "LeapStones$Crossing" 140 ⟨"LeapStones", "copyRow", "([I[II)V"⟩ "LeapStones", .methodLinkNest "LeapStones$Settings" 15 ⟨"LeapStones", "isBetween", "(III)Z"⟩ "LeapStones", .methodLinkNest "LeapStones$Scene" 51 ⟨"LeapStones", "isWalker", "(I)Z"⟩ "LeapStones", .methodLinkNest "LeapStones$Scene" 55 ⟨"LeapStones", "isBetween", "(III)Z"⟩ "LeapStones", .methodLinkNest "LeapStones$Crossing" 48 ⟨"LeapStones", "isWalker", "(I)Z"⟩ "LeapStones", .methodLinkNest "LeapStones$Scene" 74 ⟨"LeapStones", "isRange", "(II)Z"⟩ "LeapStones", .methodLinkNest "LeapStones$Path" 32 ⟨"LeapStones", "isBetween", "(III)Z"⟩ "LeapStones", .methodLinkNest "LeapStones$Crossing" 52 ⟨"LeapStones", "isBetween", "(III)Z"⟩ "LeapStones", .methodLinkNest "LeapStones$Crossing" 40 ⟨"LeapStones", "sumOf", "([I)I"⟩ "LeapStones", .methodLinkNest "LeapStones$Crossing" 65 ⟨"LeapStones", "walkerInTurn", "(II)I"⟩ "LeapStones", .methodLinkNest "LeapStones$Crossing" 102 ⟨"LeapStones", "walkerBehind", "(III)I"⟩ "LeapStones", .methodLinkNest "LeapStones$Pad" 52 ⟨"LeapStones", "isBetween", "(III)Z"⟩ "LeapStones", .methodLinkNest "LeapStones$River" 32 ⟨"LeapStones", "isBetween", "(III)Z"⟩ "LeapStones"]
set_option maxRecDepth 100000 in
theorem nws_in : [42, 48, 59, 65, 113, 123, 165, 167, 169, 171, 186, 218, 220, 275, 290, 303, 309, 318, 342, 345, 410, 433, 457, 514, 515, 589, 619, 731, 814].map (fun i => lw_tbl[i]?) = nws.map some := by decide +kernel
