def RX0 : String := "QuietLines$Acts"
def TX0 : u_T := fun k => match k with
  | 0 => ("QuietLines$Acts", "size", "I", false)
  | _ => ("QuietLines$Acts", "row", "[I", true)
def tyX0 : Nat → FieldType := fun k => match k with
  | 0 => .int
  | _ => .array .int
abbrev wsX00 : List Cond := u_ws RX0 TX0 2
theorem nmX0 : ∀ a, a < 2 → ∀ b, b < 2 → a ≠ b → (TX0 a).2.1 ≠ (TX0 b).2.1 := by decide +kernel
theorem tyX0_ok : ∀ k, k < 2 → parseFieldDescriptor (TX0 k).2.2.1 = some (tyX0 k) := by decide +kernel
abbrev cX0_init : ByteArray := prog_2_method_1_code
def yX0_init : MethodName := ⟨RX0, "<init>", "()V"⟩
abbrev cX0_addTold : ByteArray := prog_2_method_2_code
def yX0_addTold : MethodName := ⟨RX0, "addTold", "(LQuietLines$Lines;I)V"⟩
abbrev cX0_addLabelled : ByteArray := prog_2_method_3_code
def yX0_addLabelled : MethodName := ⟨RX0, "addLabelled", "(LQuietLines$Lines;I)V"⟩
abbrev cX0_placeForOne : ByteArray := prog_2_method_4_code
def yX0_placeForOne : MethodName := ⟨RX0, "placeForOne", "()I"⟩
abbrev cX0_takeBack : ByteArray := prog_2_method_5_code
def yX0_takeBack : MethodName := ⟨RX0, "takeBack", "(LQuietLines$Lines;)Z"⟩
def RX1 : String := "QuietLines$Flow"
def TX1 : u_T := fun k => match k with
  | 0 => ("QuietLines$Flow", "reached", "I", false)
  | 1 => ("QuietLines$Flow", "wrongLines", "I", false)
  | 2 => ("QuietLines$Flow", "meetings", "[I", true)
  | 3 => ("QuietLines$Flow", "contexts", "[I", true)
  | 4 => ("QuietLines$Flow", "labels", "[[I", true)
  | 5 => ("QuietLines$Flow", "someRow", "[I", true)
  | 6 => ("QuietLines$Flow", "eachRow", "[I", true)
  | _ => ("QuietLines$Flow", "leaving", "[I", true)
def tyX1 : Nat → FieldType := fun k => match k with
  | 0 => .int
  | 1 => .int
  | 2 => .array .int
  | 3 => .array .int
  | 4 => .array (.array .int)
  | 5 => .array .int
  | 6 => .array .int
  | _ => .array .int
abbrev wsX10 : List Cond := u_ws RX1 TX1 8
theorem nmX1 : ∀ a, a < 8 → ∀ b, b < 8 → a ≠ b → (TX1 a).2.1 ≠ (TX1 b).2.1 := by decide +kernel
theorem tyX1_ok : ∀ k, k < 8 → parseFieldDescriptor (TX1 k).2.2.1 = some (tyX1 k) := by decide +kernel
abbrev cX1_init : ByteArray := prog_3_method_1_code
def yX1_init : MethodName := ⟨RX1, "<init>", "()V"⟩
abbrev cX1_isReached : ByteArray := prog_3_method_2_code
def yX1_isReached : MethodName := ⟨RX1, "isReached", "(I)Z"⟩
abbrev cX1_read : ByteArray := prog_3_method_3_code
def yX1_read : MethodName := ⟨RX1, "read", "(LQuietLines$Lines;[I)V"⟩
abbrev cX1_readWays : ByteArray := prog_3_method_4_code
def yX1_readWays : MethodName := ⟨RX1, "readWays", "(LQuietLines$Lines;)V"⟩
abbrev cX1_clearLabels : ByteArray := prog_3_method_5_code
def yX1_clearLabels : MethodName := ⟨RX1, "clearLabels", "([I)V"⟩
abbrev cX1_contextOf : ByteArray := prog_3_method_6_code
def yX1_contextOf : MethodName := ⟨RX1, "contextOf", "(LQuietLines$Lines;I)I"⟩
abbrev cX1_lookedAt : ByteArray := prog_3_method_7_code
def yX1_lookedAt : MethodName := ⟨RX1, "lookedAt", "([II)I"⟩
abbrev cX1_leaveByNext : ByteArray := prog_3_method_8_code
def yX1_leaveByNext : MethodName := ⟨RX1, "leaveByNext", "(LQuietLines$Lines;I)V"⟩
abbrev cX1_leaveByTarget : ByteArray := prog_3_method_9_code
def yX1_leaveByTarget : MethodName := ⟨RX1, "leaveByTarget", "(LQuietLines$Lines;I)V"⟩
abbrev cX1_comeTo : ByteArray := prog_3_method_10_code
def yX1_comeTo : MethodName := ⟨RX1, "comeTo", "(II)V"⟩
abbrev cX1_isSpokenWrong : ByteArray := prog_3_method_11_code
def yX1_isSpokenWrong : MethodName := ⟨RX1, "isSpokenWrong", "([II)Z"⟩
def RX2 : String := "QuietLines$Heard"
def TX2 : u_T := fun k => match k with
  | 0 => ("QuietLines$Heard", "size", "I", false)
  | _ => ("QuietLines$Heard", "row", "[[I", true)
def tyX2 : Nat → FieldType := fun k => match k with
  | 0 => .int
  | _ => .array (.array .int)
abbrev wsX20 : List Cond := u_ws RX2 TX2 2
theorem nmX2 : ∀ a, a < 2 → ∀ b, b < 2 → a ≠ b → (TX2 a).2.1 ≠ (TX2 b).2.1 := by decide +kernel
theorem tyX2_ok : ∀ k, k < 2 → parseFieldDescriptor (TX2 k).2.2.1 = some (tyX2 k) := by decide +kernel
abbrev cX2_init : ByteArray := prog_4_method_1_code
def yX2_init : MethodName := ⟨RX2, "<init>", "()V"⟩
abbrev cX2_add : ByteArray := prog_4_method_2_code
def yX2_add : MethodName := ⟨RX2, "add", "(IIII)Z"⟩
abbrev cX2_isAllSo : ByteArray := prog_4_method_3_code
def yX2_isAllSo : MethodName := ⟨RX2, "isAllSo", "(LQuietLines$Lines;LQuietLines$Runner;II)Z"⟩
def RX3 : String := "QuietLines$Judge"
def TX3 : u_T := fun k => match k with
  | 0 => ("QuietLines$Judge", "labels", "[I", true)
  | 1 => ("QuietLines$Judge", "flow", "LQuietLines$Flow;", true)
  | _ => ("QuietLines$Judge", "listener", "LQuietLines$Listener;", true)
def tyX3 : Nat → FieldType := fun k => match k with
  | 0 => .array .int
  | 1 => .object "QuietLines$Flow"
  | _ => .object "QuietLines$Listener"
abbrev wsX30 : List Cond := u_ws RX3 TX3 3
theorem nmX3 : ∀ a, a < 3 → ∀ b, b < 3 → a ≠ b → (TX3 a).2.1 ≠ (TX3 b).2.1 := by decide +kernel
theorem tyX3_ok : ∀ k, k < 3 → parseFieldDescriptor (TX3 k).2.2.1 = some (tyX3 k) := by decide +kernel
abbrev cX3_init : ByteArray := prog_5_method_1_code
def yX3_init : MethodName := ⟨RX3, "<init>", "()V"⟩
abbrev cX3_rowsOf : ByteArray := prog_5_method_2_code
def yX3_rowsOf : MethodName := ⟨RX3, "rowsOf", "(I)J"⟩
abbrev cX3_firstNotSo : ByteArray := prog_5_method_3_code
def yX3_firstNotSo : MethodName := ⟨RX3, "firstNotSo", "(LQuietLines$Lines;IJ)I"⟩
abbrev cX3_isSo : ByteArray := prog_5_method_4_code
def yX3_isSo : MethodName := ⟨RX3, "isSo", "(LQuietLines$Lines;I)Z"⟩
abbrev cX3_isLabelled : ByteArray := prog_5_method_5_code
def yX3_isLabelled : MethodName := ⟨RX3, "isLabelled", "(LQuietLines$Lines;II)Z"⟩
def RX4 : String := "QuietLines$Lines"
def TX4 : u_T := fun k => match k with
  | 0 => ("QuietLines$Lines", "size", "I", false)
  | 1 => ("QuietLines$Lines", "parts", "[[I", true)
  | _ => ("QuietLines$Lines", "labels", "[I", true)
def tyX4 : Nat → FieldType := fun k => match k with
  | 0 => .int
  | 1 => .array (.array .int)
  | _ => .array .int
abbrev wsX40 : List Cond := u_ws RX4 TX4 3
theorem nmX4 : ∀ a, a < 3 → ∀ b, b < 3 → a ≠ b → (TX4 a).2.1 ≠ (TX4 b).2.1 := by decide +kernel
theorem tyX4_ok : ∀ k, k < 3 → parseFieldDescriptor (TX4 k).2.2.1 = some (tyX4 k) := by decide +kernel
abbrev cX4_init : ByteArray := prog_6_method_1_code
def yX4_init : MethodName := ⟨RX4, "<init>", "()V"⟩
abbrev cX4_has : ByteArray := prog_6_method_2_code
def yX4_has : MethodName := ⟨RX4, "has", "(I)Z"⟩
abbrev cX4_clear : ByteArray := prog_6_method_3_code
def yX4_clear : MethodName := ⟨RX4, "clear", "()V"⟩
abbrev cX4_copy : ByteArray := prog_6_method_4_code
def yX4_copy : MethodName := ⟨RX4, "copy", "(LQuietLines$Lines;)V"⟩
abbrev cX4_hasPart : ByteArray := prog_6_method_5_code
def yX4_hasPart : MethodName := ⟨RX4, "hasPart", "(II)Z"⟩
abbrev cX4_fits : ByteArray := prog_6_method_6_code
def yX4_fits : MethodName := ⟨RX4, "fits", "(IIIII)Z"⟩
abbrev cX4_targetOf : ByteArray := prog_6_method_7_code
def yX4_targetOf : MethodName := ⟨RX4, "targetOf", "(I)I"⟩
abbrev cX4_linesOfKind : ByteArray := prog_6_method_8_code
def yX4_linesOfKind : MethodName := ⟨RX4, "linesOfKind", "(I)I"⟩
def RX5 : String := "QuietLines$Listener"
def TX5 : u_T := fun k => match k with
  | 0 => ("QuietLines$Listener", "runner", "LQuietLines$Runner;", true)
  | 1 => ("QuietLines$Listener", "voices", "[I", true)
  | _ => ("QuietLines$Listener", "found", "[I", true)
def tyX5 : Nat → FieldType := fun k => match k with
  | 0 => .object "QuietLines$Runner"
  | 1 => .array .int
  | _ => .array .int
abbrev wsX50 : List Cond := u_ws RX5 TX5 3
theorem nmX5 : ∀ a, a < 3 → ∀ b, b < 3 → a ≠ b → (TX5 a).2.1 ≠ (TX5 b).2.1 := by decide +kernel
theorem tyX5_ok : ∀ k, k < 3 → parseFieldDescriptor (TX5 k).2.2.1 = some (tyX5 k) := by decide +kernel
abbrev cX5_init : ByteArray := prog_7_method_1_code
def yX5_init : MethodName := ⟨RX5, "<init>", "()V"⟩
abbrev cX5_listen : ByteArray := prog_7_method_2_code
def yX5_listen : MethodName := ⟨RX5, "listen", "(LQuietLines$Lines;I)V"⟩
abbrev cX5_rowOf : ByteArray := prog_7_method_3_code
def yX5_rowOf : MethodName := ⟨RX5, "rowOf", "(II)I"⟩
abbrev cX5_unlikeRows : ByteArray := prog_7_method_4_code
def yX5_unlikeRows : MethodName := ⟨RX5, "unlikeRows", "(I)I"⟩
abbrev cX5_placeOf : ByteArray := prog_7_method_5_code
def yX5_placeOf : MethodName := ⟨RX5, "placeOf", "(I)I"⟩
abbrev cX5_rowsLike : ByteArray := prog_7_method_6_code
def yX5_rowsLike : MethodName := ⟨RX5, "rowsLike", "(I)I"⟩
def RX6 : String := "QuietLines$Runner"
def TX6 : u_T := fun k => match k with
  | 0 => ("QuietLines$Runner", "many", "I", false)
  | 1 => ("QuietLines$Runner", "failed", "Z", false)
  | 2 => ("QuietLines$Runner", "values", "[I", true)
  | 3 => ("QuietLines$Runner", "said", "[I", true)
  | _ => ("QuietLines$Runner", "speakers", "[I", true)
def tyX6 : Nat → FieldType := fun k => match k with
  | 0 => .int
  | 1 => .boolean
  | 2 => .array .int
  | 3 => .array .int
  | _ => .array .int
abbrev wsX60 : List Cond := u_ws RX6 TX6 5
theorem nmX6 : ∀ a, a < 5 → ∀ b, b < 5 → a ≠ b → (TX6 a).2.1 ≠ (TX6 b).2.1 := by decide +kernel
theorem tyX6_ok : ∀ k, k < 5 → parseFieldDescriptor (TX6 k).2.2.1 = some (tyX6 k) := by decide +kernel
abbrev cX6_init : ByteArray := prog_8_method_1_code
def yX6_init : MethodName := ⟨RX6, "<init>", "()V"⟩
abbrev cX6_go : ByteArray := prog_8_method_2_code
def yX6_go : MethodName := ⟨RX6, "go", "(LQuietLines$Lines;III)V"⟩
abbrev cX6_step : ByteArray := prog_8_method_3_code
def yX6_step : MethodName := ⟨RX6, "step", "(LQuietLines$Lines;I)I"⟩
abbrev cX6_beThrown : ByteArray := prog_8_method_4_code
def yX6_beThrown : MethodName := ⟨RX6, "beThrown", "(II)V"⟩
abbrev cX6_speak : ByteArray := prog_8_method_5_code
def yX6_speak : MethodName := ⟨RX6, "speak", "(II)V"⟩
abbrev cX6_spoken : ByteArray := prog_8_method_6_code
def yX6_spoken : MethodName := ⟨RX6, "spoken", "(I)I"⟩
abbrev cX6_sumOfSpoken : ByteArray := prog_8_method_7_code
def yX6_sumOfSpoken : MethodName := ⟨RX6, "sumOfSpoken", "()I"⟩
abbrev cX6_firstUnlike : ByteArray := prog_8_method_8_code
def yX6_firstUnlike : MethodName := ⟨RX6, "firstUnlike", "(LQuietLines$Runner;)I"⟩
def RX7 : String := "QuietLines$Text"
def TX7 : u_T := fun k => match k with
  | 0 => ("QuietLines$Text", "size", "I", false)
  | _ => ("QuietLines$Text", "letters", "[I", true)
def tyX7 : Nat → FieldType := fun k => match k with
  | 0 => .int
  | _ => .array .int
abbrev wsX70 : List Cond := u_ws RX7 TX7 2
theorem nmX7 : ∀ a, a < 2 → ∀ b, b < 2 → a ≠ b → (TX7 a).2.1 ≠ (TX7 b).2.1 := by decide +kernel
theorem tyX7_ok : ∀ k, k < 2 → parseFieldDescriptor (TX7 k).2.2.1 = some (tyX7 k) := by decide +kernel
abbrev cX7_init : ByteArray := prog_9_method_1_code
def yX7_init : MethodName := ⟨RX7, "<init>", "()V"⟩
abbrev cX7_add : ByteArray := prog_9_method_2_code
def yX7_add : MethodName := ⟨RX7, "add", "(I)Z"⟩
abbrev cX7_readInto : ByteArray := prog_9_method_3_code
def yX7_readInto : MethodName := ⟨RX7, "readInto", "(LQuietLines$Lines;)I"⟩
abbrev cX7_begin : ByteArray := prog_9_method_4_code
def yX7_begin : MethodName := ⟨RX7, "begin", "(LQuietLines$Lines;I)Z"⟩
abbrev cX7_valueOf : ByteArray := prog_9_method_5_code
def yX7_valueOf : MethodName := ⟨RX7, "valueOf", "(III)I"⟩
abbrev cX7_partBehind : ByteArray := prog_9_method_6_code
def yX7_partBehind : MethodName := ⟨RX7, "partBehind", "(II)I"⟩
def RX8 : String := "QuietLines"
def TX8 : u_T := fun k => match k with
  | 0 => ("QuietLines", "text", "LQuietLines$Text;", true)
  | 1 => ("QuietLines", "draft", "LQuietLines$Lines;", true)
  | 2 => ("QuietLines", "lines", "LQuietLines$Lines;", true)
  | 3 => ("QuietLines", "acts", "LQuietLines$Acts;", true)
  | 4 => ("QuietLines", "kept", "[LQuietLines$Lines;", true)
  | 5 => ("QuietLines", "isKept", "[Z", true)
  | 6 => ("QuietLines", "toldParts", "[I", true)
  | 7 => ("QuietLines", "flow", "LQuietLines$Flow;", true)
  | 8 => ("QuietLines", "one", "LQuietLines$Runner;", true)
  | 9 => ("QuietLines", "other", "LQuietLines$Runner;", true)
  | 10 => ("QuietLines", "listener", "LQuietLines$Listener;", true)
  | 11 => ("QuietLines", "heard", "LQuietLines$Heard;", true)
  | 12 => ("QuietLines", "judging", "LQuietLines$Judge;", true)
  | _ => ("QuietLines", "theSeed", "J", false)
def tyX8 : Nat → FieldType := fun k => match k with
  | 0 => .object "QuietLines$Text"
  | 1 => .object "QuietLines$Lines"
  | 2 => .object "QuietLines$Lines"
  | 3 => .object "QuietLines$Acts"
  | 4 => .array (.object "QuietLines$Lines")
  | 5 => .array .boolean
  | 6 => .array .int
  | 7 => .object "QuietLines$Flow"
  | 8 => .object "QuietLines$Runner"
  | 9 => .object "QuietLines$Runner"
  | 10 => .object "QuietLines$Listener"
  | 11 => .object "QuietLines$Heard"
  | 12 => .object "QuietLines$Judge"
  | _ => .long
abbrev wsX80 : List Cond := u_ws RX8 TX8 14
theorem nmX8 : ∀ a, a < 14 → ∀ b, b < 14 → a ≠ b → (TX8 a).2.1 ≠ (TX8 b).2.1 := by decide +kernel
theorem tyX8_ok : ∀ k, k < 14 → parseFieldDescriptor (TX8 k).2.2.1 = some (tyX8 k) := by decide +kernel
abbrev cX8_init : ByteArray := prog_1_method_1_code
def yX8_init : MethodName := ⟨RX8, "<init>", "()V"⟩
abbrev cX8_write : ByteArray := prog_1_method_2_code
def yX8_write : MethodName := ⟨RX8, "write", "(I)I"⟩
abbrev cX8_wipe : ByteArray := prog_1_method_3_code
def yX8_wipe : MethodName := ⟨RX8, "wipe", "()I"⟩
abbrev cX8_fault : ByteArray := prog_1_method_4_code
def yX8_fault : MethodName := ⟨RX8, "fault", "()I"⟩
abbrev cX8_program : ByteArray := prog_1_method_5_code
def yX8_program : MethodName := ⟨RX8, "program", "()I"⟩
abbrev cX8_line : ByteArray := prog_1_method_6_code
def yX8_line : MethodName := ⟨RX8, "line", "(II)I"⟩
abbrev cX8_tell : ByteArray := prog_1_method_7_code
def yX8_tell : MethodName := ⟨RX8, "tell", "(IIIIII)I"⟩
abbrev cX8_makeTold : ByteArray := prog_1_method_8_code
def yX8_makeTold : MethodName := ⟨RX8, "makeTold", "(I)Z"⟩
abbrev cX8_relabel : ByteArray := prog_1_method_9_code
def yX8_relabel : MethodName := ⟨RX8, "relabel", "(II)I"⟩
abbrev cX8_undo : ByteArray := prog_1_method_10_code
def yX8_undo : MethodName := ⟨RX8, "undo", "()I"⟩
abbrev cX8_label : ByteArray := prog_1_method_11_code
def yX8_label : MethodName := ⟨RX8, "label", "(II)I"⟩
abbrev cX8_context : ByteArray := prog_1_method_12_code
def yX8_context : MethodName := ⟨RX8, "context", "(II)I"⟩
abbrev cX8_wrong : ByteArray := prog_1_method_13_code
def yX8_wrong : MethodName := ⟨RX8, "wrong", "()I"⟩
abbrev cX8_run : ByteArray := prog_1_method_14_code
def yX8_run : MethodName := ⟨RX8, "run", "(IIII)I"⟩
abbrev cX8_ends : ByteArray := prog_1_method_15_code
def yX8_ends : MethodName := ⟨RX8, "ends", "(IIII)I"⟩
abbrev cX8_leak : ByteArray := prog_1_method_16_code
def yX8_leak : MethodName := ⟨RX8, "leak", "(I)I"⟩
abbrev cX8_leastUnlike : ByteArray := prog_1_method_17_code
def yX8_leastUnlike : MethodName := ⟨RX8, "leastUnlike", "(I)I"⟩
abbrev cX8_worlds : ByteArray := prog_1_method_18_code
def yX8_worlds : MethodName := ⟨RX8, "worlds", "(I)I"⟩
abbrev cX8_alike : ByteArray := prog_1_method_19_code
def yX8_alike : MethodName := ⟨RX8, "alike", "(III)I"⟩
abbrev cX8_judge : ByteArray := prog_1_method_20_code
def yX8_judge : MethodName := ⟨RX8, "judge", "(IJ)I"⟩
abbrev cX8_hear : ByteArray := prog_1_method_21_code
def yX8_hear : MethodName := ⟨RX8, "hear", "(IIII)I"⟩
abbrev cX8_unhear : ByteArray := prog_1_method_22_code
def yX8_unhear : MethodName := ⟨RX8, "unhear", "()I"⟩
abbrev cX8_secrets : ByteArray := prog_1_method_23_code
def yX8_secrets : MethodName := ⟨RX8, "secrets", "(I)I"⟩
abbrev cX8_share : ByteArray := prog_1_method_24_code
def yX8_share : MethodName := ⟨RX8, "share", "(IIZ)I"⟩
abbrev cX8_gainInAllOrders : ByteArray := prog_1_method_25_code
def yX8_gainInAllOrders : MethodName := ⟨RX8, "gainInAllOrders", "(III)I"⟩
abbrev cX8_muted : ByteArray := prog_1_method_26_code
def yX8_muted : MethodName := ⟨RX8, "muted", "(IZ)I"⟩
abbrev cX8_seed : ByteArray := prog_1_method_27_code
def yX8_seed : MethodName := ⟨RX8, "seed", "(J)J"⟩
abbrev cX8_drawn : ByteArray := prog_1_method_28_code
def yX8_drawn : MethodName := ⟨RX8, "drawn", "(I)I"⟩
abbrev cX8_keep : ByteArray := prog_1_method_29_code
def yX8_keep : MethodName := ⟨RX8, "keep", "(I)I"⟩
abbrev cX8_again : ByteArray := prog_1_method_30_code
def yX8_again : MethodName := ⟨RX8, "again", "(I)I"⟩
abbrev cX8_count : ByteArray := prog_1_method_31_code
def yX8_count : MethodName := ⟨RX8, "count", "(I)I"⟩
abbrev cX8_isBelow : ByteArray := prog_1_method_32_code
def yX8_isBelow : MethodName := ⟨RX8, "isBelow", "(II)Z"⟩
abbrev cX8_areFigures : ByteArray := prog_1_method_33_code
def yX8_areFigures : MethodName := ⟨RX8, "areFigures", "(III)Z"⟩
abbrev cX8_fraction : ByteArray := prog_1_method_34_code
def yX8_fraction : MethodName := ⟨RX8, "fraction", "(IIZ)I"⟩
abbrev cX8_greatestDivisor : ByteArray := prog_1_method_35_code
def yX8_greatestDivisor : MethodName := ⟨RX8, "greatestDivisor", "(II)I"⟩
def RX9 : String := "QuietLinesModel"
def TX9 : u_T := fun k => match k with
  | 0 => ("QuietLinesModel", "lines", "I", false)
  | 1 => ("QuietLinesModel", "now", "[I", true)
  | 2 => ("QuietLinesModel", "readLines", "I", false)
  | 3 => ("QuietLinesModel", "text", "[I", true)
  | 4 => ("QuietLinesModel", "length", "I", false)
  | 5 => ("QuietLinesModel", "labels", "[I", true)
  | 6 => ("QuietLinesModel", "contexts", "[I", true)
  | 7 => ("QuietLinesModel", "reached", "I", false)
  | 8 => ("QuietLinesModel", "acts", "I", false)
  | 9 => ("QuietLinesModel", "next", "I", false)
  | 10 => ("QuietLinesModel", "row", "[I", true)
  | 11 => ("QuietLinesModel", "values", "[I", true)
  | 12 => ("QuietLinesModel", "spoken", "[I", true)
  | 13 => ("QuietLinesModel", "many", "I", false)
  | 14 => ("QuietLinesModel", "fails", "Z", false)
  | 15 => ("QuietLinesModel", "told", "[J", true)
  | 16 => ("QuietLinesModel", "heard", "I", false)
  | 17 => ("QuietLinesModel", "heardInput", "[I", true)
  | 18 => ("QuietLinesModel", "heardPlace", "[I", true)
  | 19 => ("QuietLinesModel", "heardValue", "[I", true)
  | 20 => ("QuietLinesModel", "heardWas", "[I", true)
  | 21 => ("QuietLinesModel", "seed", "J", false)
  | 22 => ("QuietLinesModel", "isKept", "[Z", true)
  | _ => ("QuietLinesModel", "kept", "[I", true)
def tyX9 : Nat → FieldType := fun k => match k with
  | 0 => .int
  | 1 => .array .int
  | 2 => .int
  | 3 => .array .int
  | 4 => .int
  | 5 => .array .int
  | 6 => .array .int
  | 7 => .int
  | 8 => .int
  | 9 => .int
  | 10 => .array .int
  | 11 => .array .int
  | 12 => .array .int
  | 13 => .int
  | 14 => .boolean
  | 15 => .array .long
  | 16 => .int
  | 17 => .array .int
  | 18 => .array .int
  | 19 => .array .int
  | 20 => .array .int
  | 21 => .long
  | 22 => .array .boolean
  | _ => .array .int
abbrev wsX90 : List Cond := u_ws RX9 TX9 24
theorem nmX9 : ∀ a, a < 24 → ∀ b, b < 24 → a ≠ b → (TX9 a).2.1 ≠ (TX9 b).2.1 := by decide +kernel
theorem tyX9_ok : ∀ k, k < 24 → parseFieldDescriptor (TX9 k).2.2.1 = some (tyX9 k) := by decide +kernel
abbrev cX9_init : ByteArray := prog_11_method_1_code
def yX9_init : MethodName := ⟨RX9, "<init>", "()V"⟩
abbrev cX9_in : ByteArray := prog_11_method_3_code
def yX9_in : MethodName := ⟨RX9, "in", "(JJJ)Z"⟩
abbrev cX9_has : ByteArray := prog_11_method_4_code
def yX9_has : MethodName := ⟨RX9, "has", "(II)Z"⟩
abbrev cX9_ones : ByteArray := prog_11_method_5_code
def yX9_ones : MethodName := ⟨RX9, "ones", "(I)I"⟩
abbrev cX9_write : ByteArray := prog_11_method_6_code
def yX9_write : MethodName := ⟨RX9, "write", "(I)I"⟩
abbrev cX9_wipe : ByteArray := prog_11_method_7_code
def yX9_wipe : MethodName := ⟨RX9, "wipe", "()I"⟩
abbrev cX9_kindOf : ByteArray := prog_11_method_8_code
def yX9_kindOf : MethodName := ⟨RX9, "kindOf", "(I)I"⟩
abbrev cX9_hasThree : ByteArray := prog_11_method_9_code
def yX9_hasThree : MethodName := ⟨RX9, "hasThree", "(I)Z"⟩
abbrev cX9_hasWay : ByteArray := prog_11_method_10_code
def yX9_hasWay : MethodName := ⟨RX9, "hasWay", "(I)Z"⟩
abbrev cX9_at : ByteArray := prog_11_method_11_code
def yX9_at : MethodName := ⟨RX9, "at", "(III)I"⟩
abbrev cX9_variableAt : ByteArray := prog_11_method_12_code
def yX9_variableAt : MethodName := ⟨RX9, "variableAt", "(I)I"⟩
abbrev cX9_readText : ByteArray := prog_11_method_13_code
def yX9_readText : MethodName := ⟨RX9, "readText", "()I"⟩
abbrev cX9_readLine : ByteArray := prog_11_method_14_code
def yX9_readLine : MethodName := ⟨RX9, "readLine", "(II)I"⟩
abbrev cX9_fault : ByteArray := prog_11_method_15_code
def yX9_fault : MethodName := ⟨RX9, "fault", "()I"⟩
abbrev cX9_program : ByteArray := prog_11_method_16_code
def yX9_program : MethodName := ⟨RX9, "program", "()I"⟩
abbrev cX9_isLine : ByteArray := prog_11_method_17_code
def yX9_isLine : MethodName := ⟨RX9, "isLine", "(I)Z"⟩
abbrev cX9_line : ByteArray := prog_11_method_18_code
def yX9_line : MethodName := ⟨RX9, "line", "(II)I"⟩
abbrev cX9_wayOf : ByteArray := prog_11_method_19_code
def yX9_wayOf : MethodName := ⟨RX9, "wayOf", "(II)I"⟩
abbrev cX9_comes : ByteArray := prog_11_method_20_code
def yX9_comes : MethodName := ⟨RX9, "comes", "(IIII)Z"⟩
abbrev cX9_meetingOf : ByteArray := prog_11_method_21_code
def yX9_meetingOf : MethodName := ⟨RX9, "meetingOf", "(II)I"⟩
abbrev cX9_join : ByteArray := prog_11_method_22_code
def yX9_join : MethodName := ⟨RX9, "join", "(III)V"⟩
abbrev cX9_looksAt : ByteArray := prog_11_method_23_code
def yX9_looksAt : MethodName := ⟨RX9, "looksAt", "(II)I"⟩
abbrev cX9_findContext : ByteArray := prog_11_method_24_code
def yX9_findContext : MethodName := ⟨RX9, "findContext", "(II)V"⟩
abbrev cX9_findLabels : ByteArray := prog_11_method_25_code
def yX9_findLabels : MethodName := ⟨RX9, "findLabels", "(I)V"⟩
abbrev cX9_flow : ByteArray := prog_11_method_26_code
def yX9_flow : MethodName := ⟨RX9, "flow", "(II)V"⟩
abbrev cX9_isVariable : ByteArray := prog_11_method_27_code
def yX9_isVariable : MethodName := ⟨RX9, "isVariable", "(I)Z"⟩
abbrev cX9_label : ByteArray := prog_11_method_28_code
def yX9_label : MethodName := ⟨RX9, "label", "(II)I"⟩
abbrev cX9_context : ByteArray := prog_11_method_29_code
def yX9_context : MethodName := ⟨RX9, "context", "(II)I"⟩
abbrev cX9_wrongOn : ByteArray := prog_11_method_30_code
def yX9_wrongOn : MethodName := ⟨RX9, "wrongOn", "(I)I"⟩
abbrev cX9_wrong : ByteArray := prog_11_method_31_code
def yX9_wrong : MethodName := ⟨RX9, "wrong", "()I"⟩
abbrev cX9_keepAct : ByteArray := prog_11_method_32_code
def yX9_keepAct : MethodName := ⟨RX9, "keepAct", "()V"⟩
abbrev cX9_isTold : ByteArray := prog_11_method_33_code
def yX9_isTold : MethodName := ⟨RX9, "isTold", "(IIIIII)Z"⟩
abbrev cX9_tell : ByteArray := prog_11_method_34_code
def yX9_tell : MethodName := ⟨RX9, "tell", "(IIIIII)I"⟩
abbrev cX9_relabel : ByteArray := prog_11_method_35_code
def yX9_relabel : MethodName := ⟨RX9, "relabel", "(II)I"⟩
abbrev cX9_undo : ByteArray := prog_11_method_36_code
def yX9_undo : MethodName := ⟨RX9, "undo", "()I"⟩
abbrev cX9_runBy : ByteArray := prog_11_method_37_code
def yX9_runBy : MethodName := ⟨RX9, "runBy", "(IIII)V"⟩
abbrev cX9_stepBy : ByteArray := prog_11_method_38_code
def yX9_stepBy : MethodName := ⟨RX9, "stepBy", "(II)I"⟩
abbrev cX9_areValues : ByteArray := prog_11_method_39_code
def yX9_areValues : MethodName := ⟨RX9, "areValues", "(III)Z"⟩
abbrev cX9_run : ByteArray := prog_11_method_40_code
def yX9_run : MethodName := ⟨RX9, "run", "(IIII)I"⟩
abbrev cX9_ends : ByteArray := prog_11_method_41_code
def yX9_ends : MethodName := ⟨RX9, "ends", "(IIII)I"⟩
abbrev cX9_tellAll : ByteArray := prog_11_method_42_code
def yX9_tellAll : MethodName := ⟨RX9, "tellAll", "(II)V"⟩
abbrev cX9_firstUnlike : ByteArray := prog_11_method_43_code
def yX9_firstUnlike : MethodName := ⟨RX9, "firstUnlike", "(III)I"⟩
abbrev cX9_leak : ByteArray := prog_11_method_44_code
def yX9_leak : MethodName := ⟨RX9, "leak", "(I)I"⟩
abbrev cX9_worldsBy : ByteArray := prog_11_method_45_code
def yX9_worldsBy : MethodName := ⟨RX9, "worldsBy", "(II)I"⟩
abbrev cX9_worlds : ByteArray := prog_11_method_46_code
def yX9_worlds : MethodName := ⟨RX9, "worlds", "(I)I"⟩
abbrev cX9_alike : ByteArray := prog_11_method_47_code
def yX9_alike : MethodName := ⟨RX9, "alike", "(III)I"⟩
abbrev cX9_tryThing : ByteArray := prog_11_method_48_code
def yX9_tryThing : MethodName := ⟨RX9, "tryThing", "(IIII)Z"⟩
abbrev cX9_tenThousandTo : ByteArray := prog_11_method_49_code
def yX9_tenThousandTo : MethodName := ⟨RX9, "tenThousandTo", "(I)J"⟩
abbrev cX9_judge : ByteArray := prog_11_method_50_code
def yX9_judge : MethodName := ⟨RX9, "judge", "(IJ)I"⟩
abbrev cX9_hear : ByteArray := prog_11_method_51_code
def yX9_hear : MethodName := ⟨RX9, "hear", "(IIII)I"⟩
abbrev cX9_unhear : ByteArray := prog_11_method_52_code
def yX9_unhear : MethodName := ⟨RX9, "unhear", "()I"⟩
abbrev cX9_secrets : ByteArray := prog_11_method_53_code
def yX9_secrets : MethodName := ⟨RX9, "secrets", "(I)I"⟩
abbrev cX9_factorial : ByteArray := prog_11_method_54_code
def yX9_factorial : MethodName := ⟨RX9, "factorial", "(I)I"⟩
abbrev cX9_common : ByteArray := prog_11_method_55_code
def yX9_common : MethodName := ⟨RX9, "common", "(II)I"⟩
abbrev cX9_speakers : ByteArray := prog_11_method_56_code
def yX9_speakers : MethodName := ⟨RX9, "speakers", "()I"⟩
abbrev cX9_share : ByteArray := prog_11_method_57_code
def yX9_share : MethodName := ⟨RX9, "share", "(IIZ)I"⟩
abbrev cX9_muted : ByteArray := prog_11_method_58_code
def yX9_muted : MethodName := ⟨RX9, "muted", "(IZ)I"⟩
abbrev cX9_seed : ByteArray := prog_11_method_59_code
def yX9_seed : MethodName := ⟨RX9, "seed", "(J)J"⟩
abbrev cX9_drawn : ByteArray := prog_11_method_60_code
def yX9_drawn : MethodName := ⟨RX9, "drawn", "(I)I"⟩
abbrev cX9_keep : ByteArray := prog_11_method_61_code
def yX9_keep : MethodName := ⟨RX9, "keep", "(I)I"⟩
abbrev cX9_again : ByteArray := prog_11_method_62_code
def yX9_again : MethodName := ⟨RX9, "again", "(I)I"⟩
abbrev cX9_freed : ByteArray := prog_11_method_63_code
def yX9_freed : MethodName := ⟨RX9, "freed", "()I"⟩
abbrev cX9_count : ByteArray := prog_11_method_64_code
def yX9_count : MethodName := ⟨RX9, "count", "(I)I"⟩
def RJx145de : String := "java/io/Serializable"
def TJx145de : u_T := fun k => match k with
  | _ => ("", "", "", false)
def tyJx145de : Nat → FieldType := fun k => match k with
  | _ => .int
abbrev wsJx145de0 : List Cond := u_ws RJx145de TJx145de 0
theorem nmJx145de : ∀ a, a < 0 → ∀ b, b < 0 → a ≠ b → (TJx145de a).2.1 ≠ (TJx145de b).2.1 := by decide +kernel
theorem tyJx145de_ok : ∀ k, k < 0 → parseFieldDescriptor (TJx145de k).2.2.1 = some (tyJx145de k) := by decide +kernel
def RJx9f9b0 : String := "java/lang/CharSequence"
def TJx9f9b0 : u_T := fun k => match k with
  | _ => ("", "", "", false)
def tyJx9f9b0 : Nat → FieldType := fun k => match k with
  | _ => .int
abbrev wsJx9f9b00 : List Cond := u_ws RJx9f9b0 TJx9f9b0 0
theorem nmJx9f9b0 : ∀ a, a < 0 → ∀ b, b < 0 → a ≠ b → (TJx9f9b0 a).2.1 ≠ (TJx9f9b0 b).2.1 := by decide +kernel
theorem tyJx9f9b0_ok : ∀ k, k < 0 → parseFieldDescriptor (TJx9f9b0 k).2.2.1 = some (tyJx9f9b0 k) := by decide +kernel
def RJ11 : String := "java/lang/Character"
def TJ11 : u_T := fun k => match k with
  | _ => ("", "", "", false)
def tyJ11 : Nat → FieldType := fun k => match k with
  | _ => .int
abbrev wsJ110 : List Cond := u_ws RJ11 TJ11 0
theorem nmJ11 : ∀ a, a < 0 → ∀ b, b < 0 → a ≠ b → (TJ11 a).2.1 ≠ (TJ11 b).2.1 := by decide +kernel
theorem tyJ11_ok : ∀ k, k < 0 → parseFieldDescriptor (TJ11 k).2.2.1 = some (tyJ11 k) := by decide +kernel
abbrev cJ11_isValidCodePoint_9a6ad : ByteArray := prog_12_method_11_code
def yJ11_isValidCodePoint_9a6ad : MethodName := ⟨RJ11, "isValidCodePoint", "(I)Z"⟩
abbrev cJ11_highSurrogate_5068e : ByteArray := prog_12_method_28_code
def yJ11_highSurrogate_5068e : MethodName := ⟨RJ11, "highSurrogate", "(I)C"⟩
abbrev cJ11_lowSurrogate_5068e : ByteArray := prog_12_method_29_code
def yJ11_lowSurrogate_5068e : MethodName := ⟨RJ11, "lowSurrogate", "(I)C"⟩
def RJxb160c : String := "java/lang/Comparable"
def TJxb160c : u_T := fun k => match k with
  | _ => ("", "", "", false)
def tyJxb160c : Nat → FieldType := fun k => match k with
  | _ => .int
abbrev wsJxb160c0 : List Cond := u_ws RJxb160c TJxb160c 0
theorem nmJxb160c : ∀ a, a < 0 → ∀ b, b < 0 → a ≠ b → (TJxb160c a).2.1 ≠ (TJxb160c b).2.1 := by decide +kernel
theorem tyJxb160c_ok : ∀ k, k < 0 → parseFieldDescriptor (TJxb160c k).2.2.1 = some (tyJxb160c k) := by decide +kernel
def RJ6 : String := "java/lang/Integer"
def TJ6 : u_T := fun k => match k with
  | _ => ("", "", "", false)
def tyJ6 : Nat → FieldType := fun k => match k with
  | _ => .int
abbrev wsJ60 : List Cond := u_ws RJ6 TJ6 0
theorem nmJ6 : ∀ a, a < 0 → ∀ b, b < 0 → a ≠ b → (TJ6 a).2.1 ≠ (TJ6 b).2.1 := by decide +kernel
theorem tyJ6_ok : ∀ k, k < 0 → parseFieldDescriptor (TJ6 k).2.2.1 = some (tyJ6 k) := by decide +kernel
abbrev cJ6_numberOfTrailingZeros_0f7a4 : ByteArray := prog_13_method_48_code
def yJ6_numberOfTrailingZeros_0f7a4 : MethodName := ⟨RJ6, "numberOfTrailingZeros", "(I)I"⟩
abbrev cJ6_bitCount_0f7a4 : ByteArray := prog_13_method_49_code
def yJ6_bitCount_0f7a4 : MethodName := ⟨RJ6, "bitCount", "(I)I"⟩
def RJ9 : String := "java/lang/Math"
def TJ9 : u_T := fun k => match k with
  | _ => ("", "", "", false)
def tyJ9 : Nat → FieldType := fun k => match k with
  | _ => .int
abbrev wsJ90 : List Cond := u_ws RJ9 TJ9 0
theorem nmJ9 : ∀ a, a < 0 → ∀ b, b < 0 → a ≠ b → (TJ9 a).2.1 ≠ (TJ9 b).2.1 := by decide +kernel
theorem tyJ9_ok : ∀ k, k < 0 → parseFieldDescriptor (TJ9 k).2.2.1 = some (tyJ9 k) := by decide +kernel
abbrev cJ9_abs_0f7a4 : ByteArray := prog_14_method_59_code
def yJ9_abs_0f7a4 : MethodName := ⟨RJ9, "abs", "(I)I"⟩
abbrev cJ9_max_7cf53 : ByteArray := prog_14_method_65_code
def yJ9_max_7cf53 : MethodName := ⟨RJ9, "max", "(II)I"⟩
abbrev cJ9_min_7cf53 : ByteArray := prog_14_method_69_code
def yJ9_min_7cf53 : MethodName := ⟨RJ9, "min", "(II)I"⟩
def RJ0 : String := "java/lang/String"
def TJ0 : u_T := fun k => match k with
  | _ => ("", "", "", false)
def tyJ0 : Nat → FieldType := fun k => match k with
  | _ => .int
abbrev wsJ00 : List Cond := u_ws RJ0 TJ0 0
theorem nmJ0 : ∀ a, a < 0 → ∀ b, b < 0 → a ≠ b → (TJ0 a).2.1 ≠ (TJ0 b).2.1 := by decide +kernel
theorem tyJ0_ok : ∀ k, k < 0 → parseFieldDescriptor (TJ0 k).2.2.1 = some (tyJ0 k) := by decide +kernel
abbrev cJ0_length_8abf5 : ByteArray := prog_15_method_54_code
def yJ0_length_8abf5 : MethodName := ⟨RJ0, "length", "()I"⟩
abbrev cJ0_indexOf_0f7a4 : ByteArray := prog_15_method_79_code
def yJ0_indexOf_0f7a4 : MethodName := ⟨RJ0, "indexOf", "(I)I"⟩
abbrev cJ0_indexOf_7cf53 : ByteArray := prog_15_method_80_code
def yJ0_indexOf_7cf53 : MethodName := ⟨RJ0, "indexOf", "(II)I"⟩
abbrev cJ0_coder_7d493 : ByteArray := prog_15_method_152_code
def yJ0_coder_7d493 : MethodName := ⟨RJ0, "coder", "()B"⟩
abbrev cJ0_isLatin1_aae02 : ByteArray := prog_15_method_154_code
def yJ0_isLatin1_aae02 : MethodName := ⟨RJ0, "isLatin1", "()Z"⟩
abbrev cJ0_checkBoundsBeginEnd_23922 : ByteArray := prog_15_method_158_code
def yJ0_checkBoundsBeginEnd_23922 : MethodName := ⟨RJ0, "checkBoundsBeginEnd", "(III)V"⟩
def RJ1 : String := "java/lang/StringLatin1"
def TJ1 : u_T := fun k => match k with
  | _ => ("", "", "", false)
def tyJ1 : Nat → FieldType := fun k => match k with
  | _ => .int
abbrev wsJ10 : List Cond := u_ws RJ1 TJ1 0
theorem nmJ1 : ∀ a, a < 0 → ∀ b, b < 0 → a ≠ b → (TJ1 a).2.1 ≠ (TJ1 b).2.1 := by decide +kernel
theorem tyJ1_ok : ∀ k, k < 0 → parseFieldDescriptor (TJ1 k).2.2.1 = some (tyJ1 k) := by decide +kernel
abbrev cJ1_canEncode_9a6ad : ByteArray := prog_16_method_4_code
def yJ1_canEncode_9a6ad : MethodName := ⟨RJ1, "canEncode", "(I)Z"⟩
abbrev cJ1_indexOf_4cfef : ByteArray := prog_16_method_22_code
def yJ1_indexOf_4cfef : MethodName := ⟨RJ1, "indexOf", "([BIII)I"⟩
abbrev cJ1_indexOfChar_4cfef : ByteArray := prog_16_method_23_code
def yJ1_indexOfChar_4cfef : MethodName := ⟨RJ1, "indexOfChar", "([BIII)I"⟩
def RJ2 : String := "java/lang/StringUTF16"
def TJ2 : u_T := fun k => match k with
  | _ => ("", "", "", false)
def tyJ2 : Nat → FieldType := fun k => match k with
  | _ => .int
abbrev wsJ20 : List Cond := u_ws RJ2 TJ2 0
theorem nmJ2 : ∀ a, a < 0 → ∀ b, b < 0 → a ≠ b → (TJ2 a).2.1 ≠ (TJ2 b).2.1 := by decide +kernel
theorem tyJ2_ok : ∀ k, k < 0 → parseFieldDescriptor (TJ2 k).2.2.1 = some (tyJ2 k) := by decide +kernel
abbrev cJ2_getChar_3b067 : ByteArray := prog_17_method_5_code
def yJ2_getChar_3b067 : MethodName := ⟨RJ2, "getChar", "([BI)C"⟩
abbrev cJ2_length_9d52b : ByteArray := prog_17_method_6_code
def yJ2_length_9d52b : MethodName := ⟨RJ2, "length", "([B)I"⟩
abbrev cJ2_indexOf_4cfef : ByteArray := prog_17_method_40_code
def yJ2_indexOf_4cfef : MethodName := ⟨RJ2, "indexOf", "([BIII)I"⟩
abbrev cJ2_indexOfChar_4cfef : ByteArray := prog_17_method_47_code
def yJ2_indexOfChar_4cfef : MethodName := ⟨RJ2, "indexOfChar", "([BIII)I"⟩
abbrev cJ2_indexOfCharUnsafe_4cfef : ByteArray := prog_17_method_48_code
def yJ2_indexOfCharUnsafe_4cfef : MethodName := ⟨RJ2, "indexOfCharUnsafe", "([BIII)I"⟩
abbrev cJ2_indexOfSupplementary_4cfef : ByteArray := prog_17_method_49_code
def yJ2_indexOfSupplementary_4cfef : MethodName := ⟨RJ2, "indexOfSupplementary", "([BIII)I"⟩
abbrev cJ2_checkBoundsBeginEnd_d044e : ByteArray := prog_17_method_93_code
def yJ2_checkBoundsBeginEnd_d044e : MethodName := ⟨RJ2, "checkBoundsBeginEnd", "(II[B)V"⟩
def RJ10 : String := "java/lang/System"
def TJ10 : u_T := fun k => match k with
  | _ => ("", "", "", false)
def tyJ10 : Nat → FieldType := fun k => match k with
  | _ => .int
abbrev wsJ100 : List Cond := u_ws RJ10 TJ10 0
theorem nmJ10 : ∀ a, a < 0 → ∀ b, b < 0 → a ≠ b → (TJ10 a).2.1 ≠ (TJ10 b).2.1 := by decide +kernel
theorem tyJ10_ok : ∀ k, k < 0 → parseFieldDescriptor (TJ10 k).2.2.1 = some (tyJ10 k) := by decide +kernel
def RJxfd54e : String := "java/lang/constant/Constable"
def TJxfd54e : u_T := fun k => match k with
  | _ => ("", "", "", false)
def tyJxfd54e : Nat → FieldType := fun k => match k with
  | _ => .int
abbrev wsJxfd54e0 : List Cond := u_ws RJxfd54e TJxfd54e 0
theorem nmJxfd54e : ∀ a, a < 0 → ∀ b, b < 0 → a ≠ b → (TJxfd54e a).2.1 ≠ (TJxfd54e b).2.1 := by decide +kernel
theorem tyJxfd54e_ok : ∀ k, k < 0 → parseFieldDescriptor (TJxfd54e k).2.2.1 = some (tyJxfd54e k) := by decide +kernel
def RJx3cf43 : String := "java/lang/constant/ConstantDesc"
def TJx3cf43 : u_T := fun k => match k with
  | _ => ("", "", "", false)
def tyJx3cf43 : Nat → FieldType := fun k => match k with
  | _ => .int
abbrev wsJx3cf430 : List Cond := u_ws RJx3cf43 TJx3cf43 0
theorem nmJx3cf43 : ∀ a, a < 0 → ∀ b, b < 0 → a ≠ b → (TJx3cf43 a).2.1 ≠ (TJx3cf43 b).2.1 := by decide +kernel
theorem tyJx3cf43_ok : ∀ k, k < 0 → parseFieldDescriptor (TJx3cf43 k).2.2.1 = some (tyJx3cf43 k) := by decide +kernel
def RJ7 : String := "java/util/Arrays"
def TJ7 : u_T := fun k => match k with
  | _ => ("", "", "", false)
def tyJ7 : Nat → FieldType := fun k => match k with
  | _ => .int
abbrev wsJ70 : List Cond := u_ws RJ7 TJ7 0
theorem nmJ7 : ∀ a, a < 0 → ∀ b, b < 0 → a ≠ b → (TJ7 a).2.1 ≠ (TJ7 b).2.1 := by decide +kernel
theorem tyJ7_ok : ∀ k, k < 0 → parseFieldDescriptor (TJ7 k).2.2.1 = some (tyJ7 k) := by decide +kernel
abbrev cJ7_fill_53178 : ByteArray := prog_19_method_103_code
def yJ7_fill_53178 : MethodName := ⟨RJ7, "fill", "([II)V"⟩
def RJ3 : String := "jdk/internal/util/Preconditions"
def TJ3 : u_T := fun k => match k with
  | _ => ("", "", "", false)
def tyJ3 : Nat → FieldType := fun k => match k with
  | _ => .int
abbrev wsJ30 : List Cond := u_ws RJ3 TJ3 0
theorem nmJ3 : ∀ a, a < 0 → ∀ b, b < 0 → a ≠ b → (TJ3 a).2.1 ≠ (TJ3 b).2.1 := by decide +kernel
theorem tyJ3_ok : ∀ k, k < 0 → parseFieldDescriptor (TJ3 k).2.2.1 = some (tyJ3 k) := by decide +kernel
abbrev cJ3_checkFromToIndex_8c36e : ByteArray := prog_20_method_12_code
def yJ3_checkFromToIndex_8c36e : MethodName := ⟨RJ3, "checkFromToIndex", "(IIILjava/util/function/BiFunction;)I"⟩
def RL : String := "QuietLinesLaw"
abbrev cL_law : ByteArray := code
def yL_law : MethodName := ⟨RL, "law", "([I)Z"⟩
abbrev vwCl : List vw_C := [(RX0, TX0, 2), (RX1, TX1, 8), (RX2, TX2, 2), (RX3, TX3, 3), (RX4, TX4, 3), (RX5, TX5, 3), (RX6, TX6, 5), (RX7, TX7, 2), (RX8, TX8, 14), (RX9, TX9, 24)]
