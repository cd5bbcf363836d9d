/-! ===== BEGIN printed: names, fields, word lists, decode rows ===== -/
def RX0 : String := "ExactTurtle$Input"
def TX0 : u_T := fun k => match k with
  | 0 => ("ExactTurtle$Input", "letters", "[C", true)
  | 1 => ("ExactTurtle$Input", "kinds", "[I", true)
  | 2 => ("ExactTurtle$Input", "numbers", "[I", true)
  | 3 => ("ExactTurtle$Input", "partners", "[I", true)
  | 4 => ("ExactTurtle$Input", "opened", "[I", true)
  | 5 => ("ExactTurtle$Input", "length", "I", false)
  | 6 => ("ExactTurtle$Input", "at", "I", false)
  | 7 => ("ExactTurtle$Input", "size", "I", false)
  | 8 => ("ExactTurtle$Input", "open", "I", false)
  | 9 => ("ExactTurtle$Input", "commands", "I", false)
  | _ => ("ExactTurtle$Input", "wrong", "Z", false)
def tyX0 : Nat → FieldType := fun k => match k with
  | 0 => .array .char
  | 1 => .array .int
  | 2 => .array .int
  | 3 => .array .int
  | 4 => .array .int
  | 5 => .int
  | 6 => .int
  | 7 => .int
  | 8 => .int
  | 9 => .int
  | _ => .boolean
abbrev wsX00 : List Cond := u_ws RX0 TX0 11
theorem nmX0 : ∀ a, a < 11 → ∀ b, b < 11 → a ≠ b → (TX0 a).2.1 ≠ (TX0 b).2.1 := by decide +kernel
theorem tyX0_ok : ∀ k, k < 11 → parseFieldDescriptor (TX0 k).2.2.1 = some (tyX0 k) := by decide +kernel
abbrev cX0_init : ByteArray := prog_2_method_1_code
def yX0_init : MethodName := ⟨RX0, "<init>", "()V"⟩
abbrev cX0_add : ByteArray := prog_2_method_2_code
def yX0_add : MethodName := ⟨RX0, "add", "(C)Z"⟩
abbrev cX0_takeProgram : ByteArray := prog_2_method_3_code
def yX0_takeProgram : MethodName := ⟨RX0, "takeProgram", "()LExactTurtle$Program;"⟩
abbrev cX0_errorCode : ByteArray := prog_2_method_4_code
def yX0_errorCode : MethodName := ⟨RX0, "errorCode", "()I"⟩
abbrev cX0_takeCommand : ByteArray := prog_2_method_5_code
def yX0_takeCommand : MethodName := ⟨RX0, "takeCommand", "()V"⟩
abbrev cX0_takeNumbered : ByteArray := prog_2_method_6_code
def yX0_takeNumbered : MethodName := ⟨RX0, "takeNumbered", "(C)V"⟩
abbrev cX0_openRepetition : ByteArray := prog_2_method_7_code
def yX0_openRepetition : MethodName := ⟨RX0, "openRepetition", "()V"⟩
abbrev cX0_closeRepetition : ByteArray := prog_2_method_8_code
def yX0_closeRepetition : MethodName := ⟨RX0, "closeRepetition", "()V"⟩
abbrev cX0_takeNumber : ByteArray := prog_2_method_9_code
def yX0_takeNumber : MethodName := ⟨RX0, "takeNumber", "()I"⟩
abbrev cX0_write : ByteArray := prog_2_method_10_code
def yX0_write : MethodName := ⟨RX0, "write", "(II)V"⟩
abbrev cX0_letterAt : ByteArray := prog_2_method_11_code
def yX0_letterAt : MethodName := ⟨RX0, "letterAt", "(I)C"⟩
abbrev cX0_isDigit : ByteArray := prog_2_method_12_code
def yX0_isDigit : MethodName := ⟨RX0, "isDigit", "(C)Z"⟩
def RX1 : String := "ExactTurtle$Journey"
def TX1 : u_T := fun k => match k with
  | 0 => ("ExactTurtle$Journey", "track", "LExactTurtle$Track;", true)
  | 1 => ("ExactTurtle$Journey", "letters", "[I", true)
  | 2 => ("ExactTurtle$Journey", "numbers", "[I", true)
  | 3 => ("ExactTurtle$Journey", "callCounts", "[I", true)
  | 4 => ("ExactTurtle$Journey", "callOrder", "[I", true)
  | 5 => ("ExactTurtle$Journey", "basics", "I", false)
  | 6 => ("ExactTurtle$Journey", "namesCalled", "I", false)
  | 7 => ("ExactTurtle$Journey", "turned", "I", false)
  | _ => ("ExactTurtle$Journey", "penUp", "Z", false)
def tyX1 : Nat → FieldType := fun k => match k with
  | 0 => .object "ExactTurtle$Track"
  | 1 => .array .int
  | 2 => .array .int
  | 3 => .array .int
  | 4 => .array .int
  | 5 => .int
  | 6 => .int
  | 7 => .int
  | _ => .boolean
abbrev wsX10 : List Cond := u_ws RX1 TX1 9
theorem nmX1 : ∀ a, a < 9 → ∀ b, b < 9 → a ≠ b → (TX1 a).2.1 ≠ (TX1 b).2.1 := by decide +kernel
theorem tyX1_ok : ∀ k, k < 9 → parseFieldDescriptor (TX1 k).2.2.1 = some (tyX1 k) := by decide +kernel
abbrev cX1_init : ByteArray := prog_3_method_1_code
def yX1_init : MethodName := ⟨RX1, "<init>", "()V"⟩
abbrev cX1_restart : ByteArray := prog_3_method_2_code
def yX1_restart : MethodName := ⟨RX1, "restart", "(I)V"⟩
abbrev cX1_follow : ByteArray := prog_3_method_3_code
def yX1_follow : MethodName := ⟨RX1, "follow", "(II)Z"⟩
abbrev cX1_noteCall : ByteArray := prog_3_method_4_code
def yX1_noteCall : MethodName := ⟨RX1, "noteCall", "(I)V"⟩
abbrev cX1_addCalls : ByteArray := prog_3_method_5_code
def yX1_addCalls : MethodName := ⟨RX1, "addCalls", "(II)V"⟩
abbrev cX1_callsOf : ByteArray := prog_3_method_6_code
def yX1_callsOf : MethodName := ⟨RX1, "callsOf", "(I)I"⟩
abbrev cX1_heading : ByteArray := prog_3_method_7_code
def yX1_heading : MethodName := ⟨RX1, "heading", "()I"⟩
abbrev cX1_isSmooth : ByteArray := prog_3_method_8_code
def yX1_isSmooth : MethodName := ⟨RX1, "isSmooth", "()Z"⟩
abbrev cX1_turnAt : ByteArray := prog_3_method_9_code
def yX1_turnAt : MethodName := ⟨RX1, "turnAt", "(I)I"⟩
abbrev cX1_lengthAt : ByteArray := prog_3_method_10_code
def yX1_lengthAt : MethodName := ⟨RX1, "lengthAt", "(I)I"⟩
abbrev cX1_isSame : ByteArray := prog_3_method_11_code
def yX1_isSame : MethodName := ⟨RX1, "isSame", "(II)Z"⟩
def RX2 : String := "ExactTurtle$Procedures"
def TX2 : u_T := fun k => match k with
  | 0 => ("ExactTurtle$Procedures", "current", "[LExactTurtle$Program;", true)
  | 1 => ("ExactTurtle$Procedures", "saved", "[LExactTurtle$Program;", true)
  | _ => ("ExactTurtle$Procedures", "hasSaved", "Z", false)
def tyX2 : Nat → FieldType := fun k => match k with
  | 0 => .array (.object "ExactTurtle$Program")
  | 1 => .array (.object "ExactTurtle$Program")
  | _ => .boolean
abbrev wsX20 : List Cond := u_ws RX2 TX2 3
theorem nmX2 : ∀ a, a < 3 → ∀ b, b < 3 → a ≠ b → (TX2 a).2.1 ≠ (TX2 b).2.1 := by decide +kernel
theorem tyX2_ok : ∀ k, k < 3 → parseFieldDescriptor (TX2 k).2.2.1 = some (tyX2 k) := by decide +kernel
abbrev cX2_init : ByteArray := prog_4_method_1_code
def yX2_init : MethodName := ⟨RX2, "<init>", "()V"⟩
abbrev cX2_get : ByteArray := prog_4_method_2_code
def yX2_get : MethodName := ⟨RX2, "get", "(I)LExactTurtle$Program;"⟩
abbrev cX2_put : ByteArray := prog_4_method_3_code
def yX2_put : MethodName := ⟨RX2, "put", "(ILExactTurtle$Program;)V"⟩
abbrev cX2_definedOnes : ByteArray := prog_4_method_4_code
def yX2_definedOnes : MethodName := ⟨RX2, "definedOnes", "()I"⟩
abbrev cX2_save : ByteArray := prog_4_method_5_code
def yX2_save : MethodName := ⟨RX2, "save", "()V"⟩
abbrev cX2_restore : ByteArray := prog_4_method_6_code
def yX2_restore : MethodName := ⟨RX2, "restore", "()Z"⟩
def RX3 : String := "ExactTurtle$Program"
def TX3 : u_T := fun k => match k with
  | 0 => ("ExactTurtle$Program", "kinds", "[I", true)
  | 1 => ("ExactTurtle$Program", "numbers", "[I", true)
  | 2 => ("ExactTurtle$Program", "partners", "[I", true)
  | 3 => ("ExactTurtle$Program", "size", "I", true)
  | _ => ("ExactTurtle$Program", "commands", "I", true)
def tyX3 : Nat → FieldType := fun k => match k with
  | 0 => .array .int
  | 1 => .array .int
  | 2 => .array .int
  | 3 => .int
  | _ => .int
abbrev wsX30 : List Cond := u_ws RX3 TX3 5
theorem nmX3 : ∀ a, a < 5 → ∀ b, b < 5 → a ≠ b → (TX3 a).2.1 ≠ (TX3 b).2.1 := by decide +kernel
theorem tyX3_ok : ∀ k, k < 5 → parseFieldDescriptor (TX3 k).2.2.1 = some (tyX3 k) := by decide +kernel
abbrev cX3_init : ByteArray := prog_5_method_1_code
def yX3_init : MethodName := ⟨RX3, "<init>", "([I[I[III)V"⟩
abbrev cX3_kindAt : ByteArray := prog_5_method_2_code
def yX3_kindAt : MethodName := ⟨RX3, "kindAt", "(I)I"⟩
abbrev cX3_numberAt : ByteArray := prog_5_method_3_code
def yX3_numberAt : MethodName := ⟨RX3, "numberAt", "(I)I"⟩
abbrev cX3_partnerAt : ByteArray := prog_5_method_4_code
def yX3_partnerAt : MethodName := ⟨RX3, "partnerAt", "(I)I"⟩
def RX4 : String := "ExactTurtle$Runner"
def TX4 : u_T := fun k => match k with
  | 0 => ("ExactTurtle$Runner", "roundsLeft", "[I", true)
  | 1 => ("ExactTurtle$Runner", "idleWithin", "[I", true)
  | 2 => ("ExactTurtle$Runner", "idleCounts", "[I", true)
  | 3 => ("ExactTurtle$Runner", "countsBefore", "[I", true)
  | _ => ("ExactTurtle$Runner", "rounds", "I", false)
def tyX4 : Nat → FieldType := fun k => match k with
  | 0 => .array .int
  | 1 => .array .int
  | 2 => .array .int
  | 3 => .array .int
  | _ => .int
abbrev wsX40 : List Cond := u_ws RX4 TX4 5
theorem nmX4 : ∀ a, a < 5 → ∀ b, b < 5 → a ≠ b → (TX4 a).2.1 ≠ (TX4 b).2.1 := by decide +kernel
theorem tyX4_ok : ∀ k, k < 5 → parseFieldDescriptor (TX4 k).2.2.1 = some (tyX4 k) := by decide +kernel
abbrev cX4_init : ByteArray := prog_6_method_1_code
def yX4_init : MethodName := ⟨RX4, "<init>", "()V"⟩
abbrev cX4_perform : ByteArray := prog_6_method_2_code
def yX4_perform : MethodName := ⟨RX4, "perform", "(LExactTurtle$Program;LExactTurtle$Procedures;LExactTurtle$Journey;)V"⟩
abbrev cX4_execute : ByteArray := prog_6_method_3_code
def yX4_execute : MethodName := ⟨RX4, "execute", "(LExactTurtle$Program;LExactTurtle$Procedures;LExactTurtle$Journey;I)V"⟩
abbrev cX4_performCall : ByteArray := prog_6_method_4_code
def yX4_performCall : MethodName := ⟨RX4, "performCall", "(ILExactTurtle$Procedures;LExactTurtle$Journey;I)V"⟩
abbrev cX4_beginRound : ByteArray := prog_6_method_5_code
def yX4_beginRound : MethodName := ⟨RX4, "beginRound", "()V"⟩
abbrev cX4_doBasic : ByteArray := prog_6_method_6_code
def yX4_doBasic : MethodName := ⟨RX4, "doBasic", "(IILExactTurtle$Journey;)V"⟩
abbrev cX4_setRoundsLeft : ByteArray := prog_6_method_7_code
def yX4_setRoundsLeft : MethodName := ⟨RX4, "setRoundsLeft", "(III)V"⟩
abbrev cX4_getRoundsLeft : ByteArray := prog_6_method_8_code
def yX4_getRoundsLeft : MethodName := ⟨RX4, "getRoundsLeft", "(II)I"⟩
abbrev cX4_keepCounts : ByteArray := prog_6_method_9_code
def yX4_keepCounts : MethodName := ⟨RX4, "keepCounts", "(ILExactTurtle$Journey;)V"⟩
abbrev cX4_rememberIdle : ByteArray := prog_6_method_10_code
def yX4_rememberIdle : MethodName := ⟨RX4, "rememberIdle", "(IILExactTurtle$Journey;)V"⟩
abbrev cX4_addIdleCounts : ByteArray := prog_6_method_11_code
def yX4_addIdleCounts : MethodName := ⟨RX4, "addIdleCounts", "(ILExactTurtle$Journey;)V"⟩
def RX5 : String := "ExactTurtle$Sides"
def TX5 : u_T := fun k => match k with
  | 0 => ("ExactTurtle$Sides", "lengths", "[I", true)
  | 1 => ("ExactTurtle$Sides", "turns", "[I", true)
  | _ => ("ExactTurtle$Sides", "count", "I", false)
def tyX5 : Nat → FieldType := fun k => match k with
  | 0 => .array .int
  | 1 => .array .int
  | _ => .int
abbrev wsX50 : List Cond := u_ws RX5 TX5 3
theorem nmX5 : ∀ a, a < 3 → ∀ b, b < 3 → a ≠ b → (TX5 a).2.1 ≠ (TX5 b).2.1 := by decide +kernel
theorem tyX5_ok : ∀ k, k < 3 → parseFieldDescriptor (TX5 k).2.2.1 = some (tyX5 k) := by decide +kernel
abbrev cX5_init : ByteArray := prog_7_method_1_code
def yX5_init : MethodName := ⟨RX5, "<init>", "()V"⟩
abbrev cX5_gather : ByteArray := prog_7_method_2_code
def yX5_gather : MethodName := ⟨RX5, "gather", "(LExactTurtle$Track;)V"⟩
abbrev cX5_rotations : ByteArray := prog_7_method_3_code
def yX5_rotations : MethodName := ⟨RX5, "rotations", "()I"⟩
abbrev cX5_hasMirror : ByteArray := prog_7_method_4_code
def yX5_hasMirror : MethodName := ⟨RX5, "hasMirror", "()Z"⟩
abbrev cX5_firstOfSide : ByteArray := prog_7_method_5_code
def yX5_firstOfSide : MethodName := ⟨RX5, "firstOfSide", "(LExactTurtle$Track;)I"⟩
abbrev cX5_turnAfter : ByteArray := prog_7_method_6_code
def yX5_turnAfter : MethodName := ⟨RX5, "turnAfter", "(LExactTurtle$Track;I)I"⟩
abbrev cX5_isUnchangedBy : ByteArray := prog_7_method_7_code
def yX5_isUnchangedBy : MethodName := ⟨RX5, "isUnchangedBy", "(I)Z"⟩
abbrev cX5_isMirroredAt : ByteArray := prog_7_method_8_code
def yX5_isMirroredAt : MethodName := ⟨RX5, "isMirroredAt", "(I)Z"⟩
abbrev cX5_lengthOf : ByteArray := prog_7_method_9_code
def yX5_lengthOf : MethodName := ⟨RX5, "lengthOf", "(I)I"⟩
abbrev cX5_turnOf : ByteArray := prog_7_method_10_code
def yX5_turnOf : MethodName := ⟨RX5, "turnOf", "(I)I"⟩
def RX6 : String := "ExactTurtle$TextMeasure"
def TX6 : u_T := fun k => match k with
  | _ => ("ExactTurtle$TextMeasure", "shortest", "[I", true)
def tyX6 : Nat → FieldType := fun k => match k with
  | _ => .array .int
abbrev wsX60 : List Cond := u_ws RX6 TX6 1
theorem nmX6 : ∀ a, a < 1 → ∀ b, b < 1 → a ≠ b → (TX6 a).2.1 ≠ (TX6 b).2.1 := by decide +kernel
theorem tyX6_ok : ∀ k, k < 1 → parseFieldDescriptor (TX6 k).2.2.1 = some (tyX6 k) := by decide +kernel
abbrev cX6_init : ByteArray := prog_8_method_1_code
def yX6_init : MethodName := ⟨RX6, "<init>", "()V"⟩
abbrev cX6_measure : ByteArray := prog_8_method_2_code
def yX6_measure : MethodName := ⟨RX6, "measure", "(LExactTurtle$Journey;)I"⟩
abbrev cX6_measurePart : ByteArray := prog_8_method_3_code
def yX6_measurePart : MethodName := ⟨RX6, "measurePart", "(LExactTurtle$Journey;II)I"⟩
abbrev cX6_isRepetition : ByteArray := prog_8_method_4_code
def yX6_isRepetition : MethodName := ⟨RX6, "isRepetition", "(LExactTurtle$Journey;III)Z"⟩
abbrev cX6_put : ByteArray := prog_8_method_5_code
def yX6_put : MethodName := ⟨RX6, "put", "(III)V"⟩
abbrev cX6_get : ByteArray := prog_8_method_6_code
def yX6_get : MethodName := ⟨RX6, "get", "(II)I"⟩
def RX7 : String := "ExactTurtle$Track"
def TX7 : u_T := fun k => match k with
  | 0 => ("ExactTurtle$Track", "parts", "[I", true)
  | 1 => ("ExactTurtle$Track", "drawn", "[Z", true)
  | 2 => ("ExactTurtle$Track", "headings", "[I", true)
  | 3 => ("ExactTurtle$Track", "lengths", "[I", true)
  | 4 => ("ExactTurtle$Track", "directions", "I", false)
  | 5 => ("ExactTurtle$Track", "segments", "I", false)
  | 6 => ("ExactTurtle$Track", "compared", "Z", false)
  | 7 => ("ExactTurtle$Track", "meetingPairs", "I", false)
  | 8 => ("ExactTurtle$Track", "crossingPairs", "I", false)
  | _ => ("ExactTurtle$Track", "firstPair", "I", false)
def tyX7 : Nat → FieldType := fun k => match k with
  | 0 => .array .int
  | 1 => .array .boolean
  | 2 => .array .int
  | 3 => .array .int
  | 4 => .int
  | 5 => .int
  | 6 => .boolean
  | 7 => .int
  | 8 => .int
  | _ => .int
abbrev wsX70 : List Cond := u_ws RX7 TX7 10
theorem nmX7 : ∀ a, a < 10 → ∀ b, b < 10 → a ≠ b → (TX7 a).2.1 ≠ (TX7 b).2.1 := by decide +kernel
theorem tyX7_ok : ∀ k, k < 10 → parseFieldDescriptor (TX7 k).2.2.1 = some (tyX7 k) := by decide +kernel
abbrev cX7_init : ByteArray := prog_9_method_1_code
def yX7_init : MethodName := ⟨RX7, "<init>", "()V"⟩
abbrev cX7_restart : ByteArray := prog_9_method_2_code
def yX7_restart : MethodName := ⟨RX7, "restart", "(I)V"⟩
abbrev cX7_append : ByteArray := prog_9_method_3_code
def yX7_append : MethodName := ⟨RX7, "append", "(IIZ)Z"⟩
abbrev cX7_partAt : ByteArray := prog_9_method_4_code
def yX7_partAt : MethodName := ⟨RX7, "partAt", "(II)I"⟩
abbrev cX7_drawnAt : ByteArray := prog_9_method_5_code
def yX7_drawnAt : MethodName := ⟨RX7, "drawnAt", "(I)Z"⟩
abbrev cX7_headingAt : ByteArray := prog_9_method_6_code
def yX7_headingAt : MethodName := ⟨RX7, "headingAt", "(I)I"⟩
abbrev cX7_lengthAt : ByteArray := prog_9_method_7_code
def yX7_lengthAt : MethodName := ⟨RX7, "lengthAt", "(I)I"⟩
abbrev cX7_endsAtStart : ByteArray := prog_9_method_8_code
def yX7_endsAtStart : MethodName := ⟨RX7, "endsAtStart", "()Z"⟩
abbrev cX7_enclosed : ByteArray := prog_9_method_9_code
def yX7_enclosed : MethodName := ⟨RX7, "enclosed", "(Z)J"⟩
abbrev cX7_outermost : ByteArray := prog_9_method_10_code
def yX7_outermost : MethodName := ⟨RX7, "outermost", "(IZ)I"⟩
abbrev cX7_comparePairs : ByteArray := prog_9_method_11_code
def yX7_comparePairs : MethodName := ⟨RX7, "comparePairs", "()V"⟩
abbrev cX7_isCounted : ByteArray := prog_9_method_12_code
def yX7_isCounted : MethodName := ⟨RX7, "isCounted", "(II)Z"⟩
abbrev cX7_comparePair : ByteArray := prog_9_method_13_code
def yX7_comparePair : MethodName := ⟨RX7, "comparePair", "(II)V"⟩
abbrev cX7_addMeeting : ByteArray := prog_9_method_14_code
def yX7_addMeeting : MethodName := ⟨RX7, "addMeeting", "(II)V"⟩
abbrev cX7_side : ByteArray := prog_9_method_15_code
def yX7_side : MethodName := ⟨RX7, "side", "(II)I"⟩
abbrev cX7_isBetween : ByteArray := prog_9_method_16_code
def yX7_isBetween : MethodName := ⟨RX7, "isBetween", "(II)Z"⟩
abbrev cX7_crossInteger : ByteArray := prog_9_method_17_code
def yX7_crossInteger : MethodName := ⟨RX7, "crossInteger", "(III)J"⟩
abbrev cX7_crossFactor : ByteArray := prog_9_method_18_code
def yX7_crossFactor : MethodName := ⟨RX7, "crossFactor", "(III)J"⟩
abbrev cX7_span : ByteArray := prog_9_method_19_code
def yX7_span : MethodName := ⟨RX7, "span", "(III)J"⟩
abbrev cX7_root : ByteArray := prog_9_method_20_code
def yX7_root : MethodName := ⟨RX7, "root", "()J"⟩
def RX8 : String := "ExactTurtle$WalkSearch"
def TX8 : u_T := fun k => match k with
  | 0 => ("ExactTurtle$WalkSearch", "letters", "[C", true)
  | _ => ("ExactTurtle$WalkSearch", "place", "[I", true)
def tyX8 : Nat → FieldType := fun k => match k with
  | 0 => .array .char
  | _ => .array .int
abbrev wsX80 : List Cond := u_ws RX8 TX8 2
theorem nmX8 : ∀ a, a < 2 → ∀ b, b < 2 → a ≠ b → (TX8 a).2.1 ≠ (TX8 b).2.1 := by decide +kernel
theorem tyX8_ok : ∀ k, k < 2 → parseFieldDescriptor (TX8 k).2.2.1 = some (tyX8 k) := by decide +kernel
abbrev cX8_init : ByteArray := prog_10_method_1_code
def yX8_init : MethodName := ⟨RX8, "<init>", "()V"⟩
abbrev cX8_find : ByteArray := prog_10_method_2_code
def yX8_find : MethodName := ⟨RX8, "find", "(LExactTurtle$Track;II)I"⟩
abbrev cX8_walkOn : ByteArray := prog_10_method_3_code
def yX8_walkOn : MethodName := ⟨RX8, "walkOn", "(LExactTurtle$Track;IIII)Z"⟩
abbrev cX8_walkOnAfter : ByteArray := prog_10_method_4_code
def yX8_walkOnAfter : MethodName := ⟨RX8, "walkOnAfter", "(CLExactTurtle$Track;IIII)Z"⟩
abbrev cX8_move : ByteArray := prog_10_method_5_code
def yX8_move : MethodName := ⟨RX8, "move", "(III)V"⟩
abbrev cX8_isAtEnd : ByteArray := prog_10_method_6_code
def yX8_isAtEnd : MethodName := ⟨RX8, "isAtEnd", "(LExactTurtle$Track;)Z"⟩
def RX9 : String := "ExactTurtle"
def TX9 : u_T := fun k => match k with
  | 0 => ("ExactTurtle", "input", "LExactTurtle$Input;", true)
  | 1 => ("ExactTurtle", "procedures", "LExactTurtle$Procedures;", true)
  | 2 => ("ExactTurtle", "runner", "LExactTurtle$Runner;", true)
  | 3 => ("ExactTurtle", "sides", "LExactTurtle$Sides;", true)
  | 4 => ("ExactTurtle", "walkSearch", "LExactTurtle$WalkSearch;", true)
  | 5 => ("ExactTurtle", "textMeasure", "LExactTurtle$TextMeasure;", true)
  | 6 => ("ExactTurtle", "output", "[C", true)
  | 7 => ("ExactTurtle", "trace", "[I", true)
  | 8 => ("ExactTurtle", "journey", "LExactTurtle$Journey;", false)
  | 9 => ("ExactTurtle", "spare", "LExactTurtle$Journey;", false)
  | 10 => ("ExactTurtle", "outputSize", "I", false)
  | _ => ("ExactTurtle", "traceSize", "I", false)
def tyX9 : Nat → FieldType := fun k => match k with
  | 0 => .object "ExactTurtle$Input"
  | 1 => .object "ExactTurtle$Procedures"
  | 2 => .object "ExactTurtle$Runner"
  | 3 => .object "ExactTurtle$Sides"
  | 4 => .object "ExactTurtle$WalkSearch"
  | 5 => .object "ExactTurtle$TextMeasure"
  | 6 => .array .char
  | 7 => .array .int
  | 8 => .object "ExactTurtle$Journey"
  | 9 => .object "ExactTurtle$Journey"
  | 10 => .int
  | _ => .int
abbrev wsX90 : List Cond := u_ws RX9 TX9 12
theorem nmX9 : ∀ a, a < 12 → ∀ b, b < 12 → a ≠ b → (TX9 a).2.1 ≠ (TX9 b).2.1 := by decide +kernel
theorem tyX9_ok : ∀ k, k < 12 → parseFieldDescriptor (TX9 k).2.2.1 = some (tyX9 k) := by decide +kernel
abbrev cX9_init : ByteArray := prog_1_method_1_code
def yX9_init : MethodName := ⟨RX9, "<init>", "()V"⟩
abbrev cX9_setDirections : ByteArray := prog_1_method_2_code
def yX9_setDirections : MethodName := ⟨RX9, "setDirections", "(I)I"⟩
abbrev cX9_feed : ByteArray := prog_1_method_3_code
def yX9_feed : MethodName := ⟨RX9, "feed", "(C)I"⟩
abbrev cX9_define : ByteArray := prog_1_method_4_code
def yX9_define : MethodName := ⟨RX9, "define", "(C)I"⟩
abbrev cX9_undefine : ByteArray := prog_1_method_5_code
def yX9_undefine : MethodName := ⟨RX9, "undefine", "(C)Z"⟩
abbrev cX9_run : ByteArray := prog_1_method_6_code
def yX9_run : MethodName := ⟨RX9, "run", "()I"⟩
abbrev cX9_point : ByteArray := prog_1_method_7_code
def yX9_point : MethodName := ⟨RX9, "point", "(II)I"⟩
abbrev cX9_points : ByteArray := prog_1_method_8_code
def yX9_points : MethodName := ⟨RX9, "points", "()I"⟩
abbrev cX9_isDrawn : ByteArray := prog_1_method_9_code
def yX9_isDrawn : MethodName := ⟨RX9, "isDrawn", "(I)Z"⟩
abbrev cX9_direction : ByteArray := prog_1_method_10_code
def yX9_direction : MethodName := ⟨RX9, "direction", "()I"⟩
abbrev cX9_turning : ByteArray := prog_1_method_11_code
def yX9_turning : MethodName := ⟨RX9, "turning", "()I"⟩
abbrev cX9_isClosed : ByteArray := prog_1_method_12_code
def yX9_isClosed : MethodName := ⟨RX9, "isClosed", "()Z"⟩
abbrev cX9_closingRepeats : ByteArray := prog_1_method_13_code
def yX9_closingRepeats : MethodName := ⟨RX9, "closingRepeats", "()I"⟩
abbrev cX9_area : ByteArray := prog_1_method_14_code
def yX9_area : MethodName := ⟨RX9, "area", "(I)J"⟩
abbrev cX9_meetings : ByteArray := prog_1_method_15_code
def yX9_meetings : MethodName := ⟨RX9, "meetings", "()I"⟩
abbrev cX9_crossings : ByteArray := prog_1_method_16_code
def yX9_crossings : MethodName := ⟨RX9, "crossings", "()I"⟩
abbrev cX9_firstMeeting : ByteArray := prog_1_method_17_code
def yX9_firstMeeting : MethodName := ⟨RX9, "firstMeeting", "()I"⟩
abbrev cX9_extreme : ByteArray := prog_1_method_18_code
def yX9_extreme : MethodName := ⟨RX9, "extreme", "(II)I"⟩
abbrev cX9_corners : ByteArray := prog_1_method_19_code
def yX9_corners : MethodName := ⟨RX9, "corners", "()I"⟩
abbrev cX9_symmetry : ByteArray := prog_1_method_20_code
def yX9_symmetry : MethodName := ⟨RX9, "symmetry", "()I"⟩
abbrev cX9_isMirrored : ByteArray := prog_1_method_21_code
def yX9_isMirrored : MethodName := ⟨RX9, "isMirrored", "()Z"⟩
abbrev cX9_shortestWalk : ByteArray := prog_1_method_22_code
def yX9_shortestWalk : MethodName := ⟨RX9, "shortestWalk", "(I)I"⟩
abbrev cX9_outputAt : ByteArray := prog_1_method_23_code
def yX9_outputAt : MethodName := ⟨RX9, "outputAt", "(I)C"⟩
abbrev cX9_shortestText : ByteArray := prog_1_method_24_code
def yX9_shortestText : MethodName := ⟨RX9, "shortestText", "()I"⟩
abbrev cX9_called : ByteArray := prog_1_method_25_code
def yX9_called : MethodName := ⟨RX9, "called", "(I)C"⟩
abbrev cX9_calls : ByteArray := prog_1_method_26_code
def yX9_calls : MethodName := ⟨RX9, "calls", "(C)I"⟩
abbrev cX9_createTrace : ByteArray := prog_1_method_27_code
def yX9_createTrace : MethodName := ⟨RX9, "createTrace", "(I)I"⟩
abbrev cX9_traceAt : ByteArray := prog_1_method_28_code
def yX9_traceAt : MethodName := ⟨RX9, "traceAt", "(I)I"⟩
abbrev cX9_saveProcedures : ByteArray := prog_1_method_29_code
def yX9_saveProcedures : MethodName := ⟨RX9, "saveProcedures", "()I"⟩
abbrev cX9_restoreProcedures : ByteArray := prog_1_method_30_code
def yX9_restoreProcedures : MethodName := ⟨RX9, "restoreProcedures", "()I"⟩
abbrev cX9_fillTrace : ByteArray := prog_1_method_31_code
def yX9_fillTrace : MethodName := ⟨RX9, "fillTrace", "()V"⟩
abbrev cX9_gatherCorners : ByteArray := prog_1_method_32_code
def yX9_gatherCorners : MethodName := ⟨RX9, "gatherCorners", "()Z"⟩
abbrev cX9_nameIndex : ByteArray := prog_1_method_33_code
def yX9_nameIndex : MethodName := ⟨RX9, "nameIndex", "(I)I"⟩
abbrev cX9_wrap : ByteArray := prog_1_method_34_code
def yX9_wrap : MethodName := ⟨RX9, "wrap", "(II)I"⟩
abbrev cX9_movePart : ByteArray := prog_1_method_35_code
def yX9_movePart : MethodName := ⟨RX9, "movePart", "(III)I"⟩
abbrev cX9_signOf : ByteArray := prog_1_method_36_code
def yX9_signOf : MethodName := ⟨RX9, "signOf", "(JJJ)I"⟩
abbrev cX9_digitsOf : ByteArray := prog_1_method_37_code
def yX9_digitsOf : MethodName := ⟨RX9, "digitsOf", "(I)I"⟩
def RX10 : String := "ExactTurtleModel"
def TX10 : u_T := fun k => match k with
  | 0 => ("ExactTurtleModel", "thrown", "I", false)
  | 1 => ("ExactTurtleModel", "d", "I", false)
  | 2 => ("ExactTurtleModel", "texts", "[I", true)
  | 3 => ("ExactTurtleModel", "lengths", "[I", true)
  | 4 => ("ExactTurtleModel", "savedTexts", "[I", true)
  | 5 => ("ExactTurtleModel", "savedLengths", "[I", true)
  | 6 => ("ExactTurtleModel", "isSaved", "Z", false)
  | 7 => ("ExactTurtleModel", "at", "I", false)
  | 8 => ("ExactTurtleModel", "open", "I", false)
  | 9 => ("ExactTurtleModel", "commands", "I", false)
  | 10 => ("ExactTurtleModel", "letters", "[I", true)
  | 11 => ("ExactTurtleModel", "numbers", "[I", true)
  | 12 => ("ExactTurtleModel", "basics", "I", false)
  | 13 => ("ExactTurtleModel", "points", "[I", true)
  | 14 => ("ExactTurtleModel", "drawn", "[Z", true)
  | 15 => ("ExactTurtleModel", "ways", "[I", true)
  | 16 => ("ExactTurtleModel", "sides", "[I", true)
  | 17 => ("ExactTurtleModel", "segments", "I", false)
  | 18 => ("ExactTurtleModel", "heading", "I", false)
  | 19 => ("ExactTurtleModel", "turned", "I", false)
  | 20 => ("ExactTurtleModel", "order", "[I", true)
  | 21 => ("ExactTurtleModel", "orderCount", "I", false)
  | 22 => ("ExactTurtleModel", "callsOf", "[I", true)
  | 23 => ("ExactTurtleModel", "fails", "I", false)
  | 24 => ("ExactTurtleModel", "newLetters", "[I", true)
  | 25 => ("ExactTurtleModel", "newNumbers", "[I", true)
  | 26 => ("ExactTurtleModel", "newHeadings", "[I", true)
  | 27 => ("ExactTurtleModel", "newBasics", "I", false)
  | 28 => ("ExactTurtleModel", "newPoints", "[I", true)
  | 29 => ("ExactTurtleModel", "newDrawn", "[Z", true)
  | 30 => ("ExactTurtleModel", "newWays", "[I", true)
  | 31 => ("ExactTurtleModel", "newSides", "[I", true)
  | 32 => ("ExactTurtleModel", "newSegments", "I", false)
  | 33 => ("ExactTurtleModel", "newHeading", "I", false)
  | 34 => ("ExactTurtleModel", "newTurned", "I", false)
  | 35 => ("ExactTurtleModel", "isDown", "Z", false)
  | 36 => ("ExactTurtleModel", "rounds", "I", false)
  | 37 => ("ExactTurtleModel", "active", "I", false)
  | 38 => ("ExactTurtleModel", "newOrder", "[I", true)
  | 39 => ("ExactTurtleModel", "newOrderCount", "I", false)
  | 40 => ("ExactTurtleModel", "newCalls", "[I", true)
  | 41 => ("ExactTurtleModel", "output", "[I", true)
  | 42 => ("ExactTurtleModel", "outputLength", "I", false)
  | 43 => ("ExactTurtleModel", "walk", "[I", true)
  | 44 => ("ExactTurtleModel", "traceSize", "I", false)
  | 45 => ("ExactTurtleModel", "trace", "[I", true)
  | 46 => ("ExactTurtleModel", "cornerLengths", "[I", true)
  | 47 => ("ExactTurtleModel", "cornerTurns", "[I", true)
  | 48 => ("ExactTurtleModel", "corners", "I", false)
  | _ => ("ExactTurtleModel", "best", "[I", true)
def tyX10 : Nat → FieldType := fun k => match k with
  | 0 => .int
  | 1 => .int
  | 2 => .array .int
  | 3 => .array .int
  | 4 => .array .int
  | 5 => .array .int
  | 6 => .boolean
  | 7 => .int
  | 8 => .int
  | 9 => .int
  | 10 => .array .int
  | 11 => .array .int
  | 12 => .int
  | 13 => .array .int
  | 14 => .array .boolean
  | 15 => .array .int
  | 16 => .array .int
  | 17 => .int
  | 18 => .int
  | 19 => .int
  | 20 => .array .int
  | 21 => .int
  | 22 => .array .int
  | 23 => .int
  | 24 => .array .int
  | 25 => .array .int
  | 26 => .array .int
  | 27 => .int
  | 28 => .array .int
  | 29 => .array .boolean
  | 30 => .array .int
  | 31 => .array .int
  | 32 => .int
  | 33 => .int
  | 34 => .int
  | 35 => .boolean
  | 36 => .int
  | 37 => .int
  | 38 => .array .int
  | 39 => .int
  | 40 => .array .int
  | 41 => .array .int
  | 42 => .int
  | 43 => .array .int
  | 44 => .int
  | 45 => .array .int
  | 46 => .array .int
  | 47 => .array .int
  | 48 => .int
  | _ => .array .int
abbrev wsX100 : List Cond := u_ws RX10 TX10 50
theorem nmX10 : ∀ a, a < 50 → ∀ b, b < 50 → a ≠ b → (TX10 a).2.1 ≠ (TX10 b).2.1 := by decide +kernel
theorem tyX10_ok : ∀ k, k < 50 → parseFieldDescriptor (TX10 k).2.2.1 = some (tyX10 k) := by decide +kernel
abbrev cX10_init : ByteArray := prog_12_method_1_code
def yX10_init : MethodName := ⟨RX10, "<init>", "()V"⟩
abbrev cX10_thrown : ByteArray := prog_12_method_2_code
def yX10_thrown : MethodName := ⟨RX10, "thrown", "()I"⟩
abbrev cX10_in : ByteArray := prog_12_method_3_code
def yX10_in : MethodName := ⟨RX10, "in", "(JJJ)Z"⟩
abbrev cX10_raises : ByteArray := prog_12_method_4_code
def yX10_raises : MethodName := ⟨RX10, "raises", "(I)I"⟩
abbrev cX10_root : ByteArray := prog_12_method_5_code
def yX10_root : MethodName := ⟨RX10, "root", "()I"⟩
abbrev cX10_whole : ByteArray := prog_12_method_6_code
def yX10_whole : MethodName := ⟨RX10, "whole", "(I)I"⟩
abbrev cX10_rooted : ByteArray := prog_12_method_7_code
def yX10_rooted : MethodName := ⟨RX10, "rooted", "(I)I"⟩
abbrev cX10_step : ByteArray := prog_12_method_8_code
def yX10_step : MethodName := ⟨RX10, "step", "(II)I"⟩
abbrev cX10_empties : ByteArray := prog_12_method_9_code
def yX10_empties : MethodName := ⟨RX10, "empties", "()V"⟩
abbrev cX10_setDirections : ByteArray := prog_12_method_10_code
def yX10_setDirections : MethodName := ⟨RX10, "setDirections", "(I)I"⟩
abbrev cX10_feed : ByteArray := prog_12_method_11_code
def yX10_feed : MethodName := ⟨RX10, "feed", "(C)I"⟩
abbrev cX10_read : ByteArray := prog_12_method_12_code
def yX10_read : MethodName := ⟨RX10, "read", "()I"⟩
abbrev cX10_isDigit : ByteArray := prog_12_method_13_code
def yX10_isDigit : MethodName := ⟨RX10, "isDigit", "(I)Z"⟩
abbrev cX10_readsNumber : ByteArray := prog_12_method_14_code
def yX10_readsNumber : MethodName := ⟨RX10, "readsNumber", "()Z"⟩
abbrev cX10_readsProgram : ByteArray := prog_12_method_15_code
def yX10_readsProgram : MethodName := ⟨RX10, "readsProgram", "()Z"⟩
abbrev cX10_isProgram : ByteArray := prog_12_method_16_code
def yX10_isProgram : MethodName := ⟨RX10, "isProgram", "()Z"⟩
abbrev cX10_define : ByteArray := prog_12_method_17_code
def yX10_define : MethodName := ⟨RX10, "define", "(C)I"⟩
abbrev cX10_undefine : ByteArray := prog_12_method_18_code
def yX10_undefine : MethodName := ⟨RX10, "undefine", "(C)Z"⟩
abbrev cX10_character : ByteArray := prog_12_method_19_code
def yX10_character : MethodName := ⟨RX10, "character", "(II)I"⟩
abbrev cX10_does : ByteArray := prog_12_method_20_code
def yX10_does : MethodName := ⟨RX10, "does", "(II)V"⟩
abbrev cX10_goesInto : ByteArray := prog_12_method_21_code
def yX10_goesInto : MethodName := ⟨RX10, "goesInto", "(I)V"⟩
abbrev cX10_behind : ByteArray := prog_12_method_22_code
def yX10_behind : MethodName := ⟨RX10, "behind", "(II)I"⟩
abbrev cX10_executes : ByteArray := prog_12_method_23_code
def yX10_executes : MethodName := ⟨RX10, "executes", "(II)I"⟩
abbrev cX10_copies : ByteArray := prog_12_method_24_code
def yX10_copies : MethodName := ⟨RX10, "copies", "([I[II)V"⟩
abbrev cX10_run : ByteArray := prog_12_method_25_code
def yX10_run : MethodName := ⟨RX10, "run", "()I"⟩
abbrev cX10_point : ByteArray := prog_12_method_26_code
def yX10_point : MethodName := ⟨RX10, "point", "(II)I"⟩
abbrev cX10_points : ByteArray := prog_12_method_27_code
def yX10_points : MethodName := ⟨RX10, "points", "()I"⟩
abbrev cX10_isDrawn : ByteArray := prog_12_method_28_code
def yX10_isDrawn : MethodName := ⟨RX10, "isDrawn", "(I)Z"⟩
abbrev cX10_direction : ByteArray := prog_12_method_29_code
def yX10_direction : MethodName := ⟨RX10, "direction", "()I"⟩
abbrev cX10_turning : ByteArray := prog_12_method_30_code
def yX10_turning : MethodName := ⟨RX10, "turning", "()I"⟩
abbrev cX10_closed : ByteArray := prog_12_method_31_code
def yX10_closed : MethodName := ⟨RX10, "closed", "()Z"⟩
abbrev cX10_isClosed : ByteArray := prog_12_method_32_code
def yX10_isClosed : MethodName := ⟨RX10, "isClosed", "()Z"⟩
abbrev cX10_closingRepeats : ByteArray := prog_12_method_33_code
def yX10_closingRepeats : MethodName := ⟨RX10, "closingRepeats", "()I"⟩
abbrev cX10_value : ByteArray := prog_12_method_34_code
def yX10_value : MethodName := ⟨RX10, "value", "(II)J"⟩
abbrev cX10_area : ByteArray := prog_12_method_35_code
def yX10_area : MethodName := ⟨RX10, "area", "(I)J"⟩
abbrev cX10_sign : ByteArray := prog_12_method_36_code
def yX10_sign : MethodName := ⟨RX10, "sign", "(JJ)I"⟩
abbrev cX10_side : ByteArray := prog_12_method_37_code
def yX10_side : MethodName := ⟨RX10, "side", "(III)I"⟩
abbrev cX10_between : ByteArray := prog_12_method_38_code
def yX10_between : MethodName := ⟨RX10, "between", "(IIII)Z"⟩
abbrev cX10_isOn : ByteArray := prog_12_method_39_code
def yX10_isOn : MethodName := ⟨RX10, "isOn", "(II)Z"⟩
abbrev cX10_isAcross : ByteArray := prog_12_method_40_code
def yX10_isAcross : MethodName := ⟨RX10, "isAcross", "(II)Z"⟩
abbrev cX10_meets : ByteArray := prog_12_method_41_code
def yX10_meets : MethodName := ⟨RX10, "meets", "(II)Z"⟩
abbrev cX10_counts : ByteArray := prog_12_method_42_code
def yX10_counts : MethodName := ⟨RX10, "counts", "(II)Z"⟩
abbrev cX10_meetings : ByteArray := prog_12_method_43_code
def yX10_meetings : MethodName := ⟨RX10, "meetings", "()I"⟩
abbrev cX10_crossings : ByteArray := prog_12_method_44_code
def yX10_crossings : MethodName := ⟨RX10, "crossings", "()I"⟩
abbrev cX10_firstMeeting : ByteArray := prog_12_method_45_code
def yX10_firstMeeting : MethodName := ⟨RX10, "firstMeeting", "()I"⟩
abbrev cX10_extreme : ByteArray := prog_12_method_46_code
def yX10_extreme : MethodName := ⟨RX10, "extreme", "(II)I"⟩
abbrev cX10_isSmooth : ByteArray := prog_12_method_47_code
def yX10_isSmooth : MethodName := ⟨RX10, "isSmooth", "()Z"⟩
abbrev cX10_findsCorners : ByteArray := prog_12_method_48_code
def yX10_findsCorners : MethodName := ⟨RX10, "findsCorners", "()V"⟩
abbrev cX10_corners : ByteArray := prog_12_method_49_code
def yX10_corners : MethodName := ⟨RX10, "corners", "()I"⟩
abbrev cX10_symmetry : ByteArray := prog_12_method_50_code
def yX10_symmetry : MethodName := ⟨RX10, "symmetry", "()I"⟩
abbrev cX10_isMirrored : ByteArray := prog_12_method_51_code
def yX10_isMirrored : MethodName := ⟨RX10, "isMirrored", "()Z"⟩
abbrev cX10_walks : ByteArray := prog_12_method_52_code
def yX10_walks : MethodName := ⟨RX10, "walks", "(IIIIIII)Z"⟩
abbrev cX10_shortestWalk : ByteArray := prog_12_method_53_code
def yX10_shortestWalk : MethodName := ⟨RX10, "shortestWalk", "(I)I"⟩
abbrev cX10_outputAt : ByteArray := prog_12_method_54_code
def yX10_outputAt : MethodName := ⟨RX10, "outputAt", "(I)C"⟩
abbrev cX10_digits : ByteArray := prog_12_method_55_code
def yX10_digits : MethodName := ⟨RX10, "digits", "(I)I"⟩
abbrev cX10_isLike : ByteArray := prog_12_method_56_code
def yX10_isLike : MethodName := ⟨RX10, "isLike", "(II)Z"⟩
abbrev cX10_shortestText : ByteArray := prog_12_method_57_code
def yX10_shortestText : MethodName := ⟨RX10, "shortestText", "()I"⟩
abbrev cX10_called : ByteArray := prog_12_method_58_code
def yX10_called : MethodName := ⟨RX10, "called", "(I)C"⟩
abbrev cX10_calls : ByteArray := prog_12_method_59_code
def yX10_calls : MethodName := ⟨RX10, "calls", "(C)I"⟩
abbrev cX10_createTrace : ByteArray := prog_12_method_60_code
def yX10_createTrace : MethodName := ⟨RX10, "createTrace", "(I)I"⟩
abbrev cX10_traceAt : ByteArray := prog_12_method_61_code
def yX10_traceAt : MethodName := ⟨RX10, "traceAt", "(I)I"⟩
abbrev cX10_defined : ByteArray := prog_12_method_62_code
def yX10_defined : MethodName := ⟨RX10, "defined", "()I"⟩
abbrev cX10_saveProcedures : ByteArray := prog_12_method_63_code
def yX10_saveProcedures : MethodName := ⟨RX10, "saveProcedures", "()I"⟩
abbrev cX10_restoreProcedures : ByteArray := prog_12_method_64_code
def yX10_restoreProcedures : MethodName := ⟨RX10, "restoreProcedures", "()I"⟩
def RJx145de : String := "java/io/Serializable"
def TJx145de : u_T := fun k => match k with
  | _ => ("", "", "", false)
def tyJx145de : Nat → FieldType := fun k => match k with
  | _ => .int
abbrev wsJx145de0 : List Cond := u_ws RJx145de TJx145de 0
theorem nmJx145de : ∀ a, a < 0 → ∀ b, b < 0 → a ≠ b → (TJx145de a).2.1 ≠ (TJx145de b).2.1 := by decide +kernel
theorem tyJx145de_ok : ∀ k, k < 0 → parseFieldDescriptor (TJx145de k).2.2.1 = some (tyJx145de k) := by decide +kernel
def RJx00060 : String := "java/lang/ArrayIndexOutOfBoundsException"
def TJx00060 : u_T := fun k => match k with
  | 0 => ("java/lang/Throwable", "backtrace", "Ljava/lang/Object;", false)
  | 1 => ("java/lang/Throwable", "detailMessage", "Ljava/lang/String;", false)
  | 2 => ("java/lang/Throwable", "cause", "Ljava/lang/Throwable;", false)
  | 3 => ("java/lang/Throwable", "stackTrace", "[Ljava/lang/StackTraceElement;", false)
  | 4 => ("java/lang/Throwable", "depth", "I", false)
  | _ => ("java/lang/Throwable", "suppressedExceptions", "Ljava/util/List;", false)
def tyJx00060 : Nat → FieldType := fun k => match k with
  | 0 => .object "java/lang/Object"
  | 1 => .object "java/lang/String"
  | 2 => .object "java/lang/Throwable"
  | 3 => .array (.object "java/lang/StackTraceElement")
  | 4 => .int
  | _ => .object "java/util/List"
abbrev wsJx000600 : List Cond := u_ws RJx00060 TJx00060 6
theorem nmJx00060 : ∀ a, a < 6 → ∀ b, b < 6 → a ≠ b → (TJx00060 a).2.1 ≠ (TJx00060 b).2.1 := by decide +kernel
theorem tyJx00060_ok : ∀ k, k < 6 → parseFieldDescriptor (TJx00060 k).2.2.1 = some (tyJx00060 k) := by decide +kernel
abbrev cJx00060_init_a7421 : ByteArray := prog_15_method_2_code
def yJx00060_init_a7421 : MethodName := ⟨RJx00060, "<init>", "(Ljava/lang/String;)V"⟩
def RJx8e188 : String := "java/lang/Cloneable"
def TJx8e188 : u_T := fun k => match k with
  | _ => ("", "", "", false)
def tyJx8e188 : Nat → FieldType := fun k => match k with
  | _ => .int
abbrev wsJx8e1880 : List Cond := u_ws RJx8e188 TJx8e188 0
theorem nmJx8e188 : ∀ a, a < 0 → ∀ b, b < 0 → a ≠ b → (TJx8e188 a).2.1 ≠ (TJx8e188 b).2.1 := by decide +kernel
theorem tyJx8e188_ok : ∀ k, k < 0 → parseFieldDescriptor (TJx8e188 k).2.2.1 = some (tyJx8e188 k) := by decide +kernel
def RJ9 : String := "java/lang/Math"
def TJ9 : u_T := fun k => match k with
  | _ => ("", "", "", false)
def tyJ9 : Nat → FieldType := fun k => match k with
  | _ => .int
abbrev wsJ90 : List Cond := u_ws RJ9 TJ9 0
theorem nmJ9 : ∀ a, a < 0 → ∀ b, b < 0 → a ≠ b → (TJ9 a).2.1 ≠ (TJ9 b).2.1 := by decide +kernel
theorem tyJ9_ok : ∀ k, k < 0 → parseFieldDescriptor (TJ9 k).2.2.1 = some (tyJ9 k) := by decide +kernel
abbrev cJ9_floorMod_7cf53 : ByteArray := prog_21_method_50_code
def yJ9_floorMod_7cf53 : MethodName := ⟨RJ9, "floorMod", "(II)I"⟩
abbrev cJ9_max_7cf53 : ByteArray := prog_21_method_65_code
def yJ9_max_7cf53 : MethodName := ⟨RJ9, "max", "(II)I"⟩
abbrev cJ9_min_7cf53 : ByteArray := prog_21_method_69_code
def yJ9_min_7cf53 : MethodName := ⟨RJ9, "min", "(II)I"⟩
abbrev cJ9_min_f86c9 : ByteArray := prog_21_method_70_code
def yJ9_min_f86c9 : MethodName := ⟨RJ9, "min", "(JJ)J"⟩
def RJ0 : String := "java/lang/String"
def TJ0 : u_T := fun k => match k with
  | 0 => ("java/lang/String", "value", "[B", true)
  | _ => ("java/lang/String", "coder", "B", true)
def tyJ0 : Nat → FieldType := fun k => match k with
  | 0 => .array .byte
  | _ => .byte
abbrev wsJ00 : List Cond := u_ws RJ0 TJ0 2
theorem nmJ0 : ∀ a, a < 2 → ∀ b, b < 2 → a ≠ b → (TJ0 a).2.1 ≠ (TJ0 b).2.1 := by decide +kernel
theorem tyJ0_ok : ∀ k, k < 2 → parseFieldDescriptor (TJ0 k).2.2.1 = some (tyJ0 k) := by decide +kernel
def RJ10 : String := "java/lang/System"
def TJ10 : u_T := fun k => match k with
  | _ => ("", "", "", false)
def tyJ10 : Nat → FieldType := fun k => match k with
  | _ => .int
abbrev wsJ100 : List Cond := u_ws RJ10 TJ10 0
theorem nmJ10 : ∀ a, a < 0 → ∀ b, b < 0 → a ≠ b → (TJ10 a).2.1 ≠ (TJ10 b).2.1 := by decide +kernel
theorem tyJ10_ok : ∀ k, k < 0 → parseFieldDescriptor (TJ10 k).2.2.1 = some (tyJ10 k) := by decide +kernel
def RJ7 : String := "java/util/Arrays"
def TJ7 : u_T := fun k => match k with
  | _ => ("", "", "", false)
def tyJ7 : Nat → FieldType := fun k => match k with
  | _ => .int
abbrev wsJ70 : List Cond := u_ws RJ7 TJ7 0
theorem nmJ7 : ∀ a, a < 0 → ∀ b, b < 0 → a ≠ b → (TJ7 a).2.1 ≠ (TJ7 b).2.1 := by decide +kernel
theorem tyJ7_ok : ∀ k, k < 0 → parseFieldDescriptor (TJ7 k).2.2.1 = some (tyJ7 k) := by decide +kernel
abbrev cJ7_fill_53178 : ByteArray := prog_26_method_103_code
def yJ7_fill_53178 : MethodName := ⟨RJ7, "fill", "([II)V"⟩
abbrev cJ7_copyOf_59c91 : ByteArray := prog_26_method_123_code
def yJ7_copyOf_59c91 : MethodName := ⟨RJ7, "copyOf", "([II)[I"⟩
def RL : String := "ExactTurtleLaw"
abbrev cL_setDirections : ByteArray := method_3_code
def yL_setDirections : MethodName := ⟨RL, "setDirections", "(LExactTurtle;I[J)I"⟩
abbrev cL_feed : ByteArray := method_4_code
def yL_feed : MethodName := ⟨RL, "feed", "(LExactTurtle;C[J)I"⟩
abbrev cL_define : ByteArray := method_5_code
def yL_define : MethodName := ⟨RL, "define", "(LExactTurtle;C[J)I"⟩
abbrev cL_undefine : ByteArray := method_6_code
def yL_undefine : MethodName := ⟨RL, "undefine", "(LExactTurtle;C[J)I"⟩
abbrev cL_run : ByteArray := method_7_code
def yL_run : MethodName := ⟨RL, "run", "(LExactTurtle;[J)I"⟩
abbrev cL_point : ByteArray := method_8_code
def yL_point : MethodName := ⟨RL, "point", "(LExactTurtle;II[J)I"⟩
abbrev cL_isDrawn : ByteArray := method_9_code
def yL_isDrawn : MethodName := ⟨RL, "isDrawn", "(LExactTurtle;I[J)I"⟩
abbrev cL_closingRepeats : ByteArray := method_10_code
def yL_closingRepeats : MethodName := ⟨RL, "closingRepeats", "(LExactTurtle;[J)I"⟩
abbrev cL_area : ByteArray := method_11_code
def yL_area : MethodName := ⟨RL, "area", "(LExactTurtle;I[J)I"⟩
abbrev cL_firstMeeting : ByteArray := method_12_code
def yL_firstMeeting : MethodName := ⟨RL, "firstMeeting", "(LExactTurtle;[J)I"⟩
abbrev cL_extreme : ByteArray := method_13_code
def yL_extreme : MethodName := ⟨RL, "extreme", "(LExactTurtle;II[J)I"⟩
abbrev cL_corners : ByteArray := method_14_code
def yL_corners : MethodName := ⟨RL, "corners", "(LExactTurtle;[J)I"⟩
abbrev cL_symmetry : ByteArray := method_15_code
def yL_symmetry : MethodName := ⟨RL, "symmetry", "(LExactTurtle;[J)I"⟩
abbrev cL_isMirrored : ByteArray := method_16_code
def yL_isMirrored : MethodName := ⟨RL, "isMirrored", "(LExactTurtle;[J)I"⟩
abbrev cL_shortestWalk : ByteArray := method_17_code
def yL_shortestWalk : MethodName := ⟨RL, "shortestWalk", "(LExactTurtle;I[J)I"⟩
abbrev cL_outputAt : ByteArray := method_18_code
def yL_outputAt : MethodName := ⟨RL, "outputAt", "(LExactTurtle;I[J)I"⟩
abbrev cL_shortestText : ByteArray := method_19_code
def yL_shortestText : MethodName := ⟨RL, "shortestText", "(LExactTurtle;[J)I"⟩
abbrev cL_called : ByteArray := method_20_code
def yL_called : MethodName := ⟨RL, "called", "(LExactTurtle;I[J)I"⟩
abbrev cL_createTrace : ByteArray := method_21_code
def yL_createTrace : MethodName := ⟨RL, "createTrace", "(LExactTurtle;I[J)I"⟩
abbrev cL_restoreProcedures : ByteArray := method_22_code
def yL_restoreProcedures : MethodName := ⟨RL, "restoreProcedures", "(LExactTurtle;[J)I"⟩
abbrev cL_law : ByteArray := code
def yL_law : MethodName := ⟨RL, "law", "([I)Z"⟩
theorem dX0_init_0 : decode cX0_init 0 = .ok (.aload_n 0, 1) := by decide +kernel
theorem dX0_init_1 : decode cX0_init 1 = .ok (.invokespecial 3, 3) := by decide +kernel
theorem dX0_init_4 : decode cX0_init 4 = .ok (.aload_n 0, 1) := by decide +kernel
theorem dX0_init_5 : decode cX0_init 5 = .ok (.bipush 100, 2) := by decide +kernel
theorem dX0_init_7 : decode cX0_init 7 = .ok (.newarray .char, 2) := by decide +kernel
theorem dX0_init_9 : decode cX0_init 9 = .ok (.putfield 9, 3) := by decide +kernel
theorem dX0_init_12 : decode cX0_init 12 = .ok (.aload_n 0, 1) := by decide +kernel
theorem dX0_init_13 : decode cX0_init 13 = .ok (.bipush 100, 2) := by decide +kernel
theorem dX0_init_15 : decode cX0_init 15 = .ok (.newarray .int, 2) := by decide +kernel
theorem dX0_init_17 : decode cX0_init 17 = .ok (.putfield 15, 3) := by decide +kernel
theorem dX0_init_20 : decode cX0_init 20 = .ok (.aload_n 0, 1) := by decide +kernel
theorem dX0_init_21 : decode cX0_init 21 = .ok (.bipush 100, 2) := by decide +kernel
theorem dX0_init_23 : decode cX0_init 23 = .ok (.newarray .int, 2) := by decide +kernel
theorem dX0_init_25 : decode cX0_init 25 = .ok (.putfield 19, 3) := by decide +kernel
theorem dX0_init_28 : decode cX0_init 28 = .ok (.aload_n 0, 1) := by decide +kernel
theorem dX0_init_29 : decode cX0_init 29 = .ok (.bipush 100, 2) := by decide +kernel
theorem dX0_init_31 : decode cX0_init 31 = .ok (.newarray .int, 2) := by decide +kernel
theorem dX0_init_33 : decode cX0_init 33 = .ok (.putfield 22, 3) := by decide +kernel
theorem dX0_init_36 : decode cX0_init 36 = .ok (.aload_n 0, 1) := by decide +kernel
theorem dX0_init_37 : decode cX0_init 37 = .ok (.bipush 6, 2) := by decide +kernel
theorem dX0_init_39 : decode cX0_init 39 = .ok (.newarray .int, 2) := by decide +kernel
theorem dX0_init_41 : decode cX0_init 41 = .ok (.putfield 25, 3) := by decide +kernel
theorem dX0_init_44 : decode cX0_init 44 = .ok (.return_, 1) := by decide +kernel
theorem dX0_add_0 : decode cX0_add 0 = .ok (.aload_n 0, 1) := by decide +kernel
theorem dX0_add_1 : decode cX0_add 1 = .ok (.getfield 28, 3) := by decide +kernel
theorem dX0_add_4 : decode cX0_add 4 = .ok (.ifCond .lt 15, 3) := by decide +kernel
theorem dX0_add_7 : decode cX0_add 7 = .ok (.aload_n 0, 1) := by decide +kernel
theorem dX0_add_8 : decode cX0_add 8 = .ok (.getfield 28, 3) := by decide +kernel
theorem dX0_add_11 : decode cX0_add 11 = .ok (.aload_n 0, 1) := by decide +kernel
theorem dX0_add_12 : decode cX0_add 12 = .ok (.getfield 9, 3) := by decide +kernel
theorem dX0_add_15 : decode cX0_add 15 = .ok (.arraylength, 1) := by decide +kernel
theorem dX0_add_16 : decode cX0_add 16 = .ok (.if_icmp .lt 5, 3) := by decide +kernel
theorem dX0_add_19 : decode cX0_add 19 = .ok (.iconst 0, 1) := by decide +kernel
theorem dX0_add_20 : decode cX0_add 20 = .ok (.ireturn, 1) := by decide +kernel
theorem dX0_add_21 : decode cX0_add 21 = .ok (.aload_n 0, 1) := by decide +kernel
theorem dX0_add_22 : decode cX0_add 22 = .ok (.getfield 9, 3) := by decide +kernel
theorem dX0_add_25 : decode cX0_add 25 = .ok (.aload_n 0, 1) := by decide +kernel
theorem dX0_add_26 : decode cX0_add 26 = .ok (.getfield 28, 3) := by decide +kernel
theorem dX0_add_29 : decode cX0_add 29 = .ok (.iload_n 1, 1) := by decide +kernel
theorem dX0_add_30 : decode cX0_add 30 = .ok (.castore, 1) := by decide +kernel
theorem dX0_add_31 : decode cX0_add 31 = .ok (.aload_n 0, 1) := by decide +kernel
theorem dX0_add_32 : decode cX0_add 32 = .ok (.dup, 1) := by decide +kernel
theorem dX0_add_33 : decode cX0_add 33 = .ok (.getfield 28, 3) := by decide +kernel
theorem dX0_add_36 : decode cX0_add 36 = .ok (.iconst 1, 1) := by decide +kernel
theorem dX0_add_37 : decode cX0_add 37 = .ok (.iadd, 1) := by decide +kernel
theorem dX0_add_38 : decode cX0_add 38 = .ok (.putfield 28, 3) := by decide +kernel
theorem dX0_add_41 : decode cX0_add 41 = .ok (.iconst 1, 1) := by decide +kernel
theorem dX0_add_42 : decode cX0_add 42 = .ok (.ireturn, 1) := by decide +kernel
theorem dX0_takeProgram_0 : decode cX0_takeProgram 0 = .ok (.aload_n 0, 1) := by decide +kernel
theorem dX0_takeProgram_1 : decode cX0_takeProgram 1 = .ok (.iconst 0, 1) := by decide +kernel
theorem dX0_takeProgram_2 : decode cX0_takeProgram 2 = .ok (.putfield 32, 3) := by decide +kernel
theorem dX0_takeProgram_5 : decode cX0_takeProgram 5 = .ok (.aload_n 0, 1) := by decide +kernel
theorem dX0_takeProgram_6 : decode cX0_takeProgram 6 = .ok (.iconst 0, 1) := by decide +kernel
theorem dX0_takeProgram_7 : decode cX0_takeProgram 7 = .ok (.putfield 35, 3) := by decide +kernel
theorem dX0_takeProgram_10 : decode cX0_takeProgram 10 = .ok (.aload_n 0, 1) := by decide +kernel
theorem dX0_takeProgram_11 : decode cX0_takeProgram 11 = .ok (.iconst 0, 1) := by decide +kernel
theorem dX0_takeProgram_12 : decode cX0_takeProgram 12 = .ok (.putfield 38, 3) := by decide +kernel
theorem dX0_takeProgram_15 : decode cX0_takeProgram 15 = .ok (.aload_n 0, 1) := by decide +kernel
theorem dX0_takeProgram_16 : decode cX0_takeProgram 16 = .ok (.iconst 0, 1) := by decide +kernel
theorem dX0_takeProgram_17 : decode cX0_takeProgram 17 = .ok (.putfield 41, 3) := by decide +kernel
theorem dX0_takeProgram_20 : decode cX0_takeProgram 20 = .ok (.aload_n 0, 1) := by decide +kernel
theorem dX0_takeProgram_21 : decode cX0_takeProgram 21 = .ok (.iconst 0, 1) := by decide +kernel
theorem dX0_takeProgram_22 : decode cX0_takeProgram 22 = .ok (.putfield 44, 3) := by decide +kernel
theorem dX0_takeProgram_25 : decode cX0_takeProgram 25 = .ok (.iconst 0, 1) := by decide +kernel
theorem dX0_takeProgram_26 : decode cX0_takeProgram 26 = .ok (.istore_n 1, 1) := by decide +kernel
theorem dX0_takeProgram_27 : decode cX0_takeProgram 27 = .ok (.iload_n 1, 1) := by decide +kernel
theorem dX0_takeProgram_28 : decode cX0_takeProgram 28 = .ok (.aload_n 0, 1) := by decide +kernel
theorem dX0_takeProgram_29 : decode cX0_takeProgram 29 = .ok (.getfield 28, 3) := by decide +kernel
theorem dX0_takeProgram_32 : decode cX0_takeProgram 32 = .ok (.if_icmp .ge 31, 3) := by decide +kernel
theorem dX0_takeProgram_35 : decode cX0_takeProgram 35 = .ok (.aload_n 0, 1) := by decide +kernel
theorem dX0_takeProgram_36 : decode cX0_takeProgram 36 = .ok (.getfield 32, 3) := by decide +kernel
theorem dX0_takeProgram_39 : decode cX0_takeProgram 39 = .ok (.aload_n 0, 1) := by decide +kernel
theorem dX0_takeProgram_40 : decode cX0_takeProgram 40 = .ok (.getfield 28, 3) := by decide +kernel
theorem dX0_takeProgram_43 : decode cX0_takeProgram 43 = .ok (.if_icmp .ge 20, 3) := by decide +kernel
theorem dX0_takeProgram_46 : decode cX0_takeProgram 46 = .ok (.aload_n 0, 1) := by decide +kernel
theorem dX0_takeProgram_47 : decode cX0_takeProgram 47 = .ok (.getfield 44, 3) := by decide +kernel
theorem dX0_takeProgram_50 : decode cX0_takeProgram 50 = .ok (.ifCond .ne 13, 3) := by decide +kernel
theorem dX0_takeProgram_53 : decode cX0_takeProgram 53 = .ok (.aload_n 0, 1) := by decide +kernel
theorem dX0_takeProgram_54 : decode cX0_takeProgram 54 = .ok (.invokevirtual 48, 3) := by decide +kernel
theorem dX0_takeProgram_57 : decode cX0_takeProgram 57 = .ok (.iinc 1 1, 3) := by decide +kernel
theorem dX0_takeProgram_60 : decode cX0_takeProgram 60 = .ok (.goto (-33), 3) := by decide +kernel
theorem dX0_takeProgram_63 : decode cX0_takeProgram 63 = .ok (.aload_n 0, 1) := by decide +kernel
theorem dX0_takeProgram_64 : decode cX0_takeProgram 64 = .ok (.iconst 0, 1) := by decide +kernel
theorem dX0_takeProgram_65 : decode cX0_takeProgram 65 = .ok (.putfield 28, 3) := by decide +kernel
theorem dX0_takeProgram_68 : decode cX0_takeProgram 68 = .ok (.aload_n 0, 1) := by decide +kernel
theorem dX0_takeProgram_69 : decode cX0_takeProgram 69 = .ok (.getfield 44, 3) := by decide +kernel
theorem dX0_takeProgram_72 : decode cX0_takeProgram 72 = .ok (.ifCond .ne 10, 3) := by decide +kernel
theorem dX0_takeProgram_75 : decode cX0_takeProgram 75 = .ok (.aload_n 0, 1) := by decide +kernel
theorem dX0_takeProgram_76 : decode cX0_takeProgram 76 = .ok (.getfield 38, 3) := by decide +kernel
theorem dX0_takeProgram_79 : decode cX0_takeProgram 79 = .ok (.ifCond .le 5, 3) := by decide +kernel
theorem dX0_takeProgram_82 : decode cX0_takeProgram 82 = .ok (.aconst_null, 1) := by decide +kernel
theorem dX0_takeProgram_83 : decode cX0_takeProgram 83 = .ok (.areturn, 1) := by decide +kernel
theorem dX0_takeProgram_84 : decode cX0_takeProgram 84 = .ok (.new 51, 3) := by decide +kernel
theorem dX0_takeProgram_87 : decode cX0_takeProgram 87 = .ok (.dup, 1) := by decide +kernel
theorem dX0_takeProgram_88 : decode cX0_takeProgram 88 = .ok (.aload_n 0, 1) := by decide +kernel
theorem dX0_takeProgram_89 : decode cX0_takeProgram 89 = .ok (.getfield 15, 3) := by decide +kernel
theorem dX0_takeProgram_92 : decode cX0_takeProgram 92 = .ok (.aload_n 0, 1) := by decide +kernel
theorem dX0_takeProgram_93 : decode cX0_takeProgram 93 = .ok (.getfield 19, 3) := by decide +kernel
theorem dX0_takeProgram_96 : decode cX0_takeProgram 96 = .ok (.aload_n 0, 1) := by decide +kernel
theorem dX0_takeProgram_97 : decode cX0_takeProgram 97 = .ok (.getfield 22, 3) := by decide +kernel
theorem dX0_takeProgram_100 : decode cX0_takeProgram 100 = .ok (.aload_n 0, 1) := by decide +kernel
theorem dX0_takeProgram_101 : decode cX0_takeProgram 101 = .ok (.getfield 35, 3) := by decide +kernel
theorem dX0_takeProgram_104 : decode cX0_takeProgram 104 = .ok (.aload_n 0, 1) := by decide +kernel
theorem dX0_takeProgram_105 : decode cX0_takeProgram 105 = .ok (.getfield 41, 3) := by decide +kernel
theorem dX0_takeProgram_108 : decode cX0_takeProgram 108 = .ok (.invokespecial 53, 3) := by decide +kernel
theorem dX0_takeProgram_111 : decode cX0_takeProgram 111 = .ok (.areturn, 1) := by decide +kernel
theorem dX1_init_0 : decode cX1_init 0 = .ok (.aload_n 0, 1) := by decide +kernel
theorem dX1_init_1 : decode cX1_init 1 = .ok (.invokespecial 3, 3) := by decide +kernel
theorem dX1_init_4 : decode cX1_init 4 = .ok (.aload_n 0, 1) := by decide +kernel
theorem dX1_init_5 : decode cX1_init 5 = .ok (.new 9, 3) := by decide +kernel
theorem dX1_init_8 : decode cX1_init 8 = .ok (.dup, 1) := by decide +kernel
theorem dX1_init_9 : decode cX1_init 9 = .ok (.invokespecial 11, 3) := by decide +kernel
theorem dX1_init_12 : decode cX1_init 12 = .ok (.putfield 12, 3) := by decide +kernel
theorem dX1_init_15 : decode cX1_init 15 = .ok (.aload_n 0, 1) := by decide +kernel
theorem dX1_init_16 : decode cX1_init 16 = .ok (.sipush 300, 3) := by decide +kernel
theorem dX1_init_19 : decode cX1_init 19 = .ok (.newarray .int, 2) := by decide +kernel
theorem dX1_init_21 : decode cX1_init 21 = .ok (.putfield 18, 3) := by decide +kernel
theorem dX1_init_24 : decode cX1_init 24 = .ok (.aload_n 0, 1) := by decide +kernel
theorem dX1_init_25 : decode cX1_init 25 = .ok (.sipush 300, 3) := by decide +kernel
theorem dX1_init_28 : decode cX1_init 28 = .ok (.newarray .int, 2) := by decide +kernel
theorem dX1_init_30 : decode cX1_init 30 = .ok (.putfield 22, 3) := by decide +kernel
theorem dX1_init_33 : decode cX1_init 33 = .ok (.aload_n 0, 1) := by decide +kernel
theorem dX1_init_34 : decode cX1_init 34 = .ok (.bipush 8, 2) := by decide +kernel
theorem dX1_init_36 : decode cX1_init 36 = .ok (.newarray .int, 2) := by decide +kernel
theorem dX1_init_38 : decode cX1_init 38 = .ok (.putfield 25, 3) := by decide +kernel
theorem dX1_init_41 : decode cX1_init 41 = .ok (.aload_n 0, 1) := by decide +kernel
theorem dX1_init_42 : decode cX1_init 42 = .ok (.bipush 8, 2) := by decide +kernel
theorem dX1_init_44 : decode cX1_init 44 = .ok (.newarray .int, 2) := by decide +kernel
theorem dX1_init_46 : decode cX1_init 46 = .ok (.putfield 28, 3) := by decide +kernel
theorem dX1_init_49 : decode cX1_init 49 = .ok (.return_, 1) := by decide +kernel
theorem dX1_restart_0 : decode cX1_restart 0 = .ok (.aload_n 0, 1) := by decide +kernel
theorem dX1_restart_1 : decode cX1_restart 1 = .ok (.getfield 12, 3) := by decide +kernel
theorem dX1_restart_4 : decode cX1_restart 4 = .ok (.iload_n 1, 1) := by decide +kernel
theorem dX1_restart_5 : decode cX1_restart 5 = .ok (.invokevirtual 31, 3) := by decide +kernel
theorem dX1_restart_8 : decode cX1_restart 8 = .ok (.aload_n 0, 1) := by decide +kernel
theorem dX1_restart_9 : decode cX1_restart 9 = .ok (.getfield 25, 3) := by decide +kernel
theorem dX1_restart_12 : decode cX1_restart 12 = .ok (.iconst 0, 1) := by decide +kernel
theorem dX1_restart_13 : decode cX1_restart 13 = .ok (.invokestatic 35, 3) := by decide +kernel
theorem dX1_restart_16 : decode cX1_restart 16 = .ok (.aload_n 0, 1) := by decide +kernel
theorem dX1_restart_17 : decode cX1_restart 17 = .ok (.iconst 0, 1) := by decide +kernel
theorem dX1_restart_18 : decode cX1_restart 18 = .ok (.putfield 41, 3) := by decide +kernel
theorem dX1_restart_21 : decode cX1_restart 21 = .ok (.aload_n 0, 1) := by decide +kernel
theorem dX1_restart_22 : decode cX1_restart 22 = .ok (.iconst 0, 1) := by decide +kernel
theorem dX1_restart_23 : decode cX1_restart 23 = .ok (.putfield 45, 3) := by decide +kernel
theorem dX1_restart_26 : decode cX1_restart 26 = .ok (.aload_n 0, 1) := by decide +kernel
theorem dX1_restart_27 : decode cX1_restart 27 = .ok (.iconst 0, 1) := by decide +kernel
theorem dX1_restart_28 : decode cX1_restart 28 = .ok (.putfield 48, 3) := by decide +kernel
theorem dX1_restart_31 : decode cX1_restart 31 = .ok (.aload_n 0, 1) := by decide +kernel
theorem dX1_restart_32 : decode cX1_restart 32 = .ok (.iconst 0, 1) := by decide +kernel
theorem dX1_restart_33 : decode cX1_restart 33 = .ok (.putfield 51, 3) := by decide +kernel
theorem dX1_restart_36 : decode cX1_restart 36 = .ok (.return_, 1) := by decide +kernel
theorem dX1_callsOf_0 : decode cX1_callsOf 0 = .ok (.iload_n 1, 1) := by decide +kernel
theorem dX1_callsOf_1 : decode cX1_callsOf 1 = .ok (.ifCond .lt 18, 3) := by decide +kernel
theorem dX1_callsOf_4 : decode cX1_callsOf 4 = .ok (.iload_n 1, 1) := by decide +kernel
theorem dX1_callsOf_5 : decode cX1_callsOf 5 = .ok (.bipush 8, 2) := by decide +kernel
theorem dX1_callsOf_7 : decode cX1_callsOf 7 = .ok (.if_icmp .ge 12, 3) := by decide +kernel
theorem dX1_callsOf_10 : decode cX1_callsOf 10 = .ok (.aload_n 0, 1) := by decide +kernel
theorem dX1_callsOf_11 : decode cX1_callsOf 11 = .ok (.getfield 25, 3) := by decide +kernel
theorem dX1_callsOf_14 : decode cX1_callsOf 14 = .ok (.iload_n 1, 1) := by decide +kernel
theorem dX1_callsOf_15 : decode cX1_callsOf 15 = .ok (.iaload, 1) := by decide +kernel
theorem dX1_callsOf_16 : decode cX1_callsOf 16 = .ok (.goto 4, 3) := by decide +kernel
theorem dX1_callsOf_19 : decode cX1_callsOf 19 = .ok (.iconst 0, 1) := by decide +kernel
theorem dX1_callsOf_20 : decode cX1_callsOf 20 = .ok (.ireturn, 1) := by decide +kernel
theorem dX1_heading_0 : decode cX1_heading 0 = .ok (.aload_n 0, 1) := by decide +kernel
theorem dX1_heading_1 : decode cX1_heading 1 = .ok (.getfield 48, 3) := by decide +kernel
theorem dX1_heading_4 : decode cX1_heading 4 = .ok (.aload_n 0, 1) := by decide +kernel
theorem dX1_heading_5 : decode cX1_heading 5 = .ok (.getfield 12, 3) := by decide +kernel
theorem dX1_heading_8 : decode cX1_heading 8 = .ok (.getfield 79, 3) := by decide +kernel
theorem dX1_heading_11 : decode cX1_heading 11 = .ok (.invokestatic 82, 3) := by decide +kernel
theorem dX1_heading_14 : decode cX1_heading 14 = .ok (.ireturn, 1) := by decide +kernel
theorem dX1_isSmooth_0 : decode cX1_isSmooth 0 = .ok (.aload_n 0, 1) := by decide +kernel
theorem dX1_isSmooth_1 : decode cX1_isSmooth 1 = .ok (.getfield 12, 3) := by decide +kernel
theorem dX1_isSmooth_4 : decode cX1_isSmooth 4 = .ok (.invokevirtual 86, 3) := by decide +kernel
theorem dX1_isSmooth_7 : decode cX1_isSmooth 7 = .ok (.ifCond .eq 14, 3) := by decide +kernel
theorem dX1_isSmooth_10 : decode cX1_isSmooth 10 = .ok (.aload_n 0, 1) := by decide +kernel
theorem dX1_isSmooth_11 : decode cX1_isSmooth 11 = .ok (.invokevirtual 55, 3) := by decide +kernel
theorem dX1_isSmooth_14 : decode cX1_isSmooth 14 = .ok (.ifCond .ne 7, 3) := by decide +kernel
theorem dX1_isSmooth_17 : decode cX1_isSmooth 17 = .ok (.iconst 1, 1) := by decide +kernel
theorem dX1_isSmooth_18 : decode cX1_isSmooth 18 = .ok (.goto 4, 3) := by decide +kernel
theorem dX1_isSmooth_21 : decode cX1_isSmooth 21 = .ok (.iconst 0, 1) := by decide +kernel
theorem dX1_isSmooth_22 : decode cX1_isSmooth 22 = .ok (.ireturn, 1) := by decide +kernel
theorem dX2_init_0 : decode cX2_init 0 = .ok (.aload_n 0, 1) := by decide +kernel
theorem dX2_init_1 : decode cX2_init 1 = .ok (.invokespecial 3, 3) := by decide +kernel
theorem dX2_init_4 : decode cX2_init 4 = .ok (.aload_n 0, 1) := by decide +kernel
theorem dX2_init_5 : decode cX2_init 5 = .ok (.bipush 8, 2) := by decide +kernel
theorem dX2_init_7 : decode cX2_init 7 = .ok (.anewarray 9, 3) := by decide +kernel
theorem dX2_init_10 : decode cX2_init 10 = .ok (.putfield 11, 3) := by decide +kernel
theorem dX2_init_13 : decode cX2_init 13 = .ok (.aload_n 0, 1) := by decide +kernel
theorem dX2_init_14 : decode cX2_init 14 = .ok (.bipush 8, 2) := by decide +kernel
theorem dX2_init_16 : decode cX2_init 16 = .ok (.anewarray 9, 3) := by decide +kernel
theorem dX2_init_19 : decode cX2_init 19 = .ok (.putfield 17, 3) := by decide +kernel
theorem dX2_init_22 : decode cX2_init 22 = .ok (.return_, 1) := by decide +kernel
theorem dX2_get_0 : decode cX2_get 0 = .ok (.iload_n 1, 1) := by decide +kernel
theorem dX2_get_1 : decode cX2_get 1 = .ok (.ifCond .lt 18, 3) := by decide +kernel
theorem dX2_get_4 : decode cX2_get 4 = .ok (.iload_n 1, 1) := by decide +kernel
theorem dX2_get_5 : decode cX2_get 5 = .ok (.bipush 8, 2) := by decide +kernel
theorem dX2_get_7 : decode cX2_get 7 = .ok (.if_icmp .ge 12, 3) := by decide +kernel
theorem dX2_get_10 : decode cX2_get 10 = .ok (.aload_n 0, 1) := by decide +kernel
theorem dX2_get_11 : decode cX2_get 11 = .ok (.getfield 11, 3) := by decide +kernel
theorem dX2_get_14 : decode cX2_get 14 = .ok (.iload_n 1, 1) := by decide +kernel
theorem dX2_get_15 : decode cX2_get 15 = .ok (.aaload, 1) := by decide +kernel
theorem dX2_get_16 : decode cX2_get 16 = .ok (.goto 4, 3) := by decide +kernel
theorem dX2_get_19 : decode cX2_get 19 = .ok (.aconst_null, 1) := by decide +kernel
theorem dX2_get_20 : decode cX2_get 20 = .ok (.areturn, 1) := by decide +kernel
theorem dX2_put_0 : decode cX2_put 0 = .ok (.iload_n 1, 1) := by decide +kernel
theorem dX2_put_1 : decode cX2_put 1 = .ok (.ifCond .lt 16, 3) := by decide +kernel
theorem dX2_put_4 : decode cX2_put 4 = .ok (.iload_n 1, 1) := by decide +kernel
theorem dX2_put_5 : decode cX2_put 5 = .ok (.bipush 8, 2) := by decide +kernel
theorem dX2_put_7 : decode cX2_put 7 = .ok (.if_icmp .ge 10, 3) := by decide +kernel
theorem dX2_put_10 : decode cX2_put 10 = .ok (.aload_n 0, 1) := by decide +kernel
theorem dX2_put_11 : decode cX2_put 11 = .ok (.getfield 11, 3) := by decide +kernel
theorem dX2_put_14 : decode cX2_put 14 = .ok (.iload_n 1, 1) := by decide +kernel
theorem dX2_put_15 : decode cX2_put 15 = .ok (.aload_n 2, 1) := by decide +kernel
theorem dX2_put_16 : decode cX2_put 16 = .ok (.aastore, 1) := by decide +kernel
theorem dX2_put_17 : decode cX2_put 17 = .ok (.return_, 1) := by decide +kernel
theorem dX2_definedOnes_0 : decode cX2_definedOnes 0 = .ok (.iconst 0, 1) := by decide +kernel
theorem dX2_definedOnes_1 : decode cX2_definedOnes 1 = .ok (.istore_n 1, 1) := by decide +kernel
theorem dX2_definedOnes_2 : decode cX2_definedOnes 2 = .ok (.iconst 0, 1) := by decide +kernel
theorem dX2_definedOnes_3 : decode cX2_definedOnes 3 = .ok (.istore_n 2, 1) := by decide +kernel
theorem dX2_definedOnes_4 : decode cX2_definedOnes 4 = .ok (.iload_n 2, 1) := by decide +kernel
theorem dX2_definedOnes_5 : decode cX2_definedOnes 5 = .ok (.bipush 8, 2) := by decide +kernel
theorem dX2_definedOnes_7 : decode cX2_definedOnes 7 = .ok (.if_icmp .ge 21, 3) := by decide +kernel
theorem dX2_definedOnes_10 : decode cX2_definedOnes 10 = .ok (.aload_n 0, 1) := by decide +kernel
theorem dX2_definedOnes_11 : decode cX2_definedOnes 11 = .ok (.getfield 11, 3) := by decide +kernel
theorem dX2_definedOnes_14 : decode cX2_definedOnes 14 = .ok (.iload_n 2, 1) := by decide +kernel
theorem dX2_definedOnes_15 : decode cX2_definedOnes 15 = .ok (.aaload, 1) := by decide +kernel
theorem dX2_definedOnes_16 : decode cX2_definedOnes 16 = .ok (.ifnull 6, 3) := by decide +kernel
theorem dX2_definedOnes_19 : decode cX2_definedOnes 19 = .ok (.iinc 1 1, 3) := by decide +kernel
theorem dX2_definedOnes_22 : decode cX2_definedOnes 22 = .ok (.iinc 2 1, 3) := by decide +kernel
theorem dX2_definedOnes_25 : decode cX2_definedOnes 25 = .ok (.goto (-21), 3) := by decide +kernel
theorem dX2_definedOnes_28 : decode cX2_definedOnes 28 = .ok (.iload_n 1, 1) := by decide +kernel
theorem dX2_definedOnes_29 : decode cX2_definedOnes 29 = .ok (.ireturn, 1) := by decide +kernel
theorem dX2_save_0 : decode cX2_save 0 = .ok (.iconst 0, 1) := by decide +kernel
theorem dX2_save_1 : decode cX2_save 1 = .ok (.istore_n 1, 1) := by decide +kernel
theorem dX2_save_2 : decode cX2_save 2 = .ok (.iload_n 1, 1) := by decide +kernel
theorem dX2_save_3 : decode cX2_save 3 = .ok (.bipush 8, 2) := by decide +kernel
theorem dX2_save_5 : decode cX2_save 5 = .ok (.if_icmp .ge 21, 3) := by decide +kernel
theorem dX2_save_8 : decode cX2_save 8 = .ok (.aload_n 0, 1) := by decide +kernel
theorem dX2_save_9 : decode cX2_save 9 = .ok (.getfield 17, 3) := by decide +kernel
theorem dX2_save_12 : decode cX2_save 12 = .ok (.iload_n 1, 1) := by decide +kernel
theorem dX2_save_13 : decode cX2_save 13 = .ok (.aload_n 0, 1) := by decide +kernel
theorem dX2_save_14 : decode cX2_save 14 = .ok (.getfield 11, 3) := by decide +kernel
theorem dX2_save_17 : decode cX2_save 17 = .ok (.iload_n 1, 1) := by decide +kernel
theorem dX2_save_18 : decode cX2_save 18 = .ok (.aaload, 1) := by decide +kernel
theorem dX2_save_19 : decode cX2_save 19 = .ok (.aastore, 1) := by decide +kernel
theorem dX2_save_20 : decode cX2_save 20 = .ok (.iinc 1 1, 3) := by decide +kernel
theorem dX2_save_23 : decode cX2_save 23 = .ok (.goto (-21), 3) := by decide +kernel
theorem dX2_save_26 : decode cX2_save 26 = .ok (.aload_n 0, 1) := by decide +kernel
theorem dX2_save_27 : decode cX2_save 27 = .ok (.iconst 1, 1) := by decide +kernel
theorem dX2_save_28 : decode cX2_save 28 = .ok (.putfield 20, 3) := by decide +kernel
theorem dX2_save_31 : decode cX2_save 31 = .ok (.return_, 1) := by decide +kernel
theorem dX2_restore_0 : decode cX2_restore 0 = .ok (.aload_n 0, 1) := by decide +kernel
theorem dX2_restore_1 : decode cX2_restore 1 = .ok (.getfield 20, 3) := by decide +kernel
theorem dX2_restore_4 : decode cX2_restore 4 = .ok (.ifCond .ne 5, 3) := by decide +kernel
theorem dX2_restore_7 : decode cX2_restore 7 = .ok (.iconst 0, 1) := by decide +kernel
theorem dX2_restore_8 : decode cX2_restore 8 = .ok (.ireturn, 1) := by decide +kernel
theorem dX2_restore_9 : decode cX2_restore 9 = .ok (.iconst 0, 1) := by decide +kernel
theorem dX2_restore_10 : decode cX2_restore 10 = .ok (.istore_n 1, 1) := by decide +kernel
theorem dX2_restore_11 : decode cX2_restore 11 = .ok (.iload_n 1, 1) := by decide +kernel
theorem dX2_restore_12 : decode cX2_restore 12 = .ok (.bipush 8, 2) := by decide +kernel
theorem dX2_restore_14 : decode cX2_restore 14 = .ok (.if_icmp .ge 21, 3) := by decide +kernel
theorem dX2_restore_17 : decode cX2_restore 17 = .ok (.aload_n 0, 1) := by decide +kernel
theorem dX2_restore_18 : decode cX2_restore 18 = .ok (.getfield 11, 3) := by decide +kernel
theorem dX2_restore_21 : decode cX2_restore 21 = .ok (.iload_n 1, 1) := by decide +kernel
theorem dX2_restore_22 : decode cX2_restore 22 = .ok (.aload_n 0, 1) := by decide +kernel
theorem dX2_restore_23 : decode cX2_restore 23 = .ok (.getfield 17, 3) := by decide +kernel
theorem dX2_restore_26 : decode cX2_restore 26 = .ok (.iload_n 1, 1) := by decide +kernel
theorem dX2_restore_27 : decode cX2_restore 27 = .ok (.aaload, 1) := by decide +kernel
theorem dX2_restore_28 : decode cX2_restore 28 = .ok (.aastore, 1) := by decide +kernel
theorem dX2_restore_29 : decode cX2_restore 29 = .ok (.iinc 1 1, 3) := by decide +kernel
theorem dX2_restore_32 : decode cX2_restore 32 = .ok (.goto (-21), 3) := by decide +kernel
theorem dX2_restore_35 : decode cX2_restore 35 = .ok (.iconst 1, 1) := by decide +kernel
theorem dX2_restore_36 : decode cX2_restore 36 = .ok (.ireturn, 1) := by decide +kernel
theorem dX3_init_0 : decode cX3_init 0 = .ok (.aload_n 0, 1) := by decide +kernel
theorem dX3_init_1 : decode cX3_init 1 = .ok (.invokespecial 1, 3) := by decide +kernel
theorem dX3_init_4 : decode cX3_init 4 = .ok (.aload_n 0, 1) := by decide +kernel
theorem dX3_init_5 : decode cX3_init 5 = .ok (.aload_n 1, 1) := by decide +kernel
theorem dX3_init_6 : decode cX3_init 6 = .ok (.iload 4, 2) := by decide +kernel
theorem dX3_init_8 : decode cX3_init 8 = .ok (.iconst 0, 1) := by decide +kernel
theorem dX3_init_9 : decode cX3_init 9 = .ok (.invokestatic 7, 3) := by decide +kernel
theorem dX3_init_12 : decode cX3_init 12 = .ok (.invokestatic 13, 3) := by decide +kernel
theorem dX3_init_15 : decode cX3_init 15 = .ok (.putfield 19, 3) := by decide +kernel
theorem dX3_init_18 : decode cX3_init 18 = .ok (.aload_n 0, 1) := by decide +kernel
theorem dX3_init_19 : decode cX3_init 19 = .ok (.aload_n 2, 1) := by decide +kernel
theorem dX3_init_20 : decode cX3_init 20 = .ok (.iload 4, 2) := by decide +kernel
theorem dX3_init_22 : decode cX3_init 22 = .ok (.iconst 0, 1) := by decide +kernel
theorem dX3_init_23 : decode cX3_init 23 = .ok (.invokestatic 7, 3) := by decide +kernel
theorem dX3_init_26 : decode cX3_init 26 = .ok (.invokestatic 13, 3) := by decide +kernel
theorem dX3_init_29 : decode cX3_init 29 = .ok (.putfield 25, 3) := by decide +kernel
theorem dX3_init_32 : decode cX3_init 32 = .ok (.aload_n 0, 1) := by decide +kernel
theorem dX3_init_33 : decode cX3_init 33 = .ok (.aload_n 3, 1) := by decide +kernel
theorem dX3_init_34 : decode cX3_init 34 = .ok (.iload 4, 2) := by decide +kernel
theorem dX3_init_36 : decode cX3_init 36 = .ok (.iconst 0, 1) := by decide +kernel
theorem dX3_init_37 : decode cX3_init 37 = .ok (.invokestatic 7, 3) := by decide +kernel
theorem dX3_init_40 : decode cX3_init 40 = .ok (.invokestatic 13, 3) := by decide +kernel
theorem dX3_init_43 : decode cX3_init 43 = .ok (.putfield 28, 3) := by decide +kernel
theorem dX3_init_46 : decode cX3_init 46 = .ok (.aload_n 0, 1) := by decide +kernel
theorem dX3_init_47 : decode cX3_init 47 = .ok (.iload 4, 2) := by decide +kernel
theorem dX3_init_49 : decode cX3_init 49 = .ok (.iconst 0, 1) := by decide +kernel
theorem dX3_init_50 : decode cX3_init 50 = .ok (.invokestatic 7, 3) := by decide +kernel
theorem dX3_init_53 : decode cX3_init 53 = .ok (.putfield 31, 3) := by decide +kernel
theorem dX3_init_56 : decode cX3_init 56 = .ok (.aload_n 0, 1) := by decide +kernel
theorem dX3_init_57 : decode cX3_init 57 = .ok (.iload 5, 2) := by decide +kernel
theorem dX3_init_59 : decode cX3_init 59 = .ok (.putfield 35, 3) := by decide +kernel
theorem dX3_init_62 : decode cX3_init 62 = .ok (.return_, 1) := by decide +kernel
theorem dX4_init_0 : decode cX4_init 0 = .ok (.aload_n 0, 1) := by decide +kernel
theorem dX4_init_1 : decode cX4_init 1 = .ok (.invokespecial 3, 3) := by decide +kernel
theorem dX4_init_4 : decode cX4_init 4 = .ok (.aload_n 0, 1) := by decide +kernel
theorem dX4_init_5 : decode cX4_init 5 = .ok (.bipush 54, 2) := by decide +kernel
theorem dX4_init_7 : decode cX4_init 7 = .ok (.newarray .int, 2) := by decide +kernel
theorem dX4_init_9 : decode cX4_init 9 = .ok (.putfield 9, 3) := by decide +kernel
theorem dX4_init_12 : decode cX4_init 12 = .ok (.aload_n 0, 1) := by decide +kernel
theorem dX4_init_13 : decode cX4_init 13 = .ok (.bipush 8, 2) := by decide +kernel
theorem dX4_init_15 : decode cX4_init 15 = .ok (.newarray .int, 2) := by decide +kernel
theorem dX4_init_17 : decode cX4_init 17 = .ok (.putfield 15, 3) := by decide +kernel
theorem dX4_init_20 : decode cX4_init 20 = .ok (.aload_n 0, 1) := by decide +kernel
theorem dX4_init_21 : decode cX4_init 21 = .ok (.bipush 64, 2) := by decide +kernel
theorem dX4_init_23 : decode cX4_init 23 = .ok (.newarray .int, 2) := by decide +kernel
theorem dX4_init_25 : decode cX4_init 25 = .ok (.putfield 18, 3) := by decide +kernel
theorem dX4_init_28 : decode cX4_init 28 = .ok (.aload_n 0, 1) := by decide +kernel
theorem dX4_init_29 : decode cX4_init 29 = .ok (.bipush 64, 2) := by decide +kernel
theorem dX4_init_31 : decode cX4_init 31 = .ok (.newarray .int, 2) := by decide +kernel
theorem dX4_init_33 : decode cX4_init 33 = .ok (.putfield 21, 3) := by decide +kernel
theorem dX4_init_36 : decode cX4_init 36 = .ok (.return_, 1) := by decide +kernel
theorem dX4_perform_0 : decode cX4_perform 0 = .ok (.aload_n 0, 1) := by decide +kernel
theorem dX4_perform_1 : decode cX4_perform 1 = .ok (.iconst 0, 1) := by decide +kernel
theorem dX4_perform_2 : decode cX4_perform 2 = .ok (.putfield 24, 3) := by decide +kernel
theorem dX4_perform_5 : decode cX4_perform 5 = .ok (.aload_n 0, 1) := by decide +kernel
theorem dX4_perform_6 : decode cX4_perform 6 = .ok (.getfield 15, 3) := by decide +kernel
theorem dX4_perform_9 : decode cX4_perform 9 = .ok (.iconst (-1), 1) := by decide +kernel
theorem dX4_perform_10 : decode cX4_perform 10 = .ok (.invokestatic 28, 3) := by decide +kernel
theorem dX4_perform_13 : decode cX4_perform 13 = .ok (.aload_n 0, 1) := by decide +kernel
theorem dX4_perform_14 : decode cX4_perform 14 = .ok (.aload_n 1, 1) := by decide +kernel
theorem dX4_perform_15 : decode cX4_perform 15 = .ok (.aload_n 2, 1) := by decide +kernel
theorem dX4_perform_16 : decode cX4_perform 16 = .ok (.aload_n 3, 1) := by decide +kernel
theorem dX4_perform_17 : decode cX4_perform 17 = .ok (.iconst 0, 1) := by decide +kernel
theorem dX4_perform_18 : decode cX4_perform 18 = .ok (.invokevirtual 34, 3) := by decide +kernel
theorem dX4_perform_21 : decode cX4_perform 21 = .ok (.return_, 1) := by decide +kernel
theorem dX4_execute_0 : decode cX4_execute 0 = .ok (.iconst 0, 1) := by decide +kernel
theorem dX4_execute_1 : decode cX4_execute 1 = .ok (.istore 5, 2) := by decide +kernel
theorem dX4_execute_3 : decode cX4_execute 3 = .ok (.iconst 0, 1) := by decide +kernel
theorem dX4_execute_4 : decode cX4_execute 4 = .ok (.istore 6, 2) := by decide +kernel
theorem dX4_execute_6 : decode cX4_execute 6 = .ok (.iconst 0, 1) := by decide +kernel
theorem dX4_execute_7 : decode cX4_execute 7 = .ok (.istore 7, 2) := by decide +kernel
theorem dX4_execute_9 : decode cX4_execute 9 = .ok (.iload 7, 2) := by decide +kernel
theorem dX4_execute_11 : decode cX4_execute 11 = .ok (.ldc 38, 2) := by decide +kernel
theorem dX4_execute_13 : decode cX4_execute 13 = .ok (.if_icmp .ge 176, 3) := by decide +kernel
theorem dX4_execute_16 : decode cX4_execute 16 = .ok (.iload 6, 2) := by decide +kernel
theorem dX4_execute_18 : decode cX4_execute 18 = .ok (.aload_n 1, 1) := by decide +kernel
theorem dX4_execute_19 : decode cX4_execute 19 = .ok (.getfield 39, 3) := by decide +kernel
theorem dX4_execute_22 : decode cX4_execute 22 = .ok (.if_icmp .ge 167, 3) := by decide +kernel
theorem dX4_execute_25 : decode cX4_execute 25 = .ok (.aload_n 1, 1) := by decide +kernel
theorem dX4_execute_26 : decode cX4_execute 26 = .ok (.iload 6, 2) := by decide +kernel
theorem dX4_execute_28 : decode cX4_execute 28 = .ok (.invokevirtual 44, 3) := by decide +kernel
theorem dX4_execute_31 : decode cX4_execute 31 = .ok (.istore 8, 2) := by decide +kernel
theorem dX4_execute_33 : decode cX4_execute 33 = .ok (.iload 8, 2) := by decide +kernel
theorem dX4_execute_35 : decode cX4_execute 35 = .ok (.bipush 40, 2) := by decide +kernel
theorem dX4_execute_37 : decode cX4_execute 37 = .ok (.if_icmp .ne 47, 3) := by decide +kernel
theorem dX4_execute_40 : decode cX4_execute 40 = .ok (.aload_n 1, 1) := by decide +kernel
theorem dX4_execute_41 : decode cX4_execute 41 = .ok (.iload 6, 2) := by decide +kernel
theorem dX4_execute_43 : decode cX4_execute 43 = .ok (.invokevirtual 48, 3) := by decide +kernel
theorem dX4_execute_46 : decode cX4_execute 46 = .ok (.ifCond .le 27, 3) := by decide +kernel
theorem dX4_execute_49 : decode cX4_execute 49 = .ok (.aload_n 0, 1) := by decide +kernel
theorem dX4_execute_50 : decode cX4_execute 50 = .ok (.invokevirtual 51, 3) := by decide +kernel
theorem dX4_execute_53 : decode cX4_execute 53 = .ok (.aload_n 0, 1) := by decide +kernel
theorem dX4_execute_54 : decode cX4_execute 54 = .ok (.iload 4, 2) := by decide +kernel
theorem dX4_execute_56 : decode cX4_execute 56 = .ok (.iload 5, 2) := by decide +kernel
theorem dX4_execute_58 : decode cX4_execute 58 = .ok (.aload_n 1, 1) := by decide +kernel
theorem dX4_execute_59 : decode cX4_execute 59 = .ok (.iload 6, 2) := by decide +kernel
theorem dX4_execute_61 : decode cX4_execute 61 = .ok (.invokevirtual 48, 3) := by decide +kernel
theorem dX4_execute_64 : decode cX4_execute 64 = .ok (.invokevirtual 54, 3) := by decide +kernel
theorem dX4_execute_67 : decode cX4_execute 67 = .ok (.iinc 5 1, 3) := by decide +kernel
theorem dX4_execute_70 : decode cX4_execute 70 = .ok (.goto 110, 3) := by decide +kernel
theorem dX4_execute_73 : decode cX4_execute 73 = .ok (.aload_n 1, 1) := by decide +kernel
theorem dX4_execute_74 : decode cX4_execute 74 = .ok (.iload 6, 2) := by decide +kernel
theorem dX4_execute_76 : decode cX4_execute 76 = .ok (.invokevirtual 58, 3) := by decide +kernel
theorem dX4_execute_79 : decode cX4_execute 79 = .ok (.istore 6, 2) := by decide +kernel
theorem dX4_execute_81 : decode cX4_execute 81 = .ok (.goto 99, 3) := by decide +kernel
theorem dX4_execute_84 : decode cX4_execute 84 = .ok (.iload 8, 2) := by decide +kernel
theorem dX4_execute_86 : decode cX4_execute 86 = .ok (.bipush 41, 2) := by decide +kernel
theorem dX4_execute_88 : decode cX4_execute 88 = .ok (.if_icmp .ne 55, 3) := by decide +kernel
theorem dX4_execute_91 : decode cX4_execute 91 = .ok (.aload_n 0, 1) := by decide +kernel
theorem dX4_execute_92 : decode cX4_execute 92 = .ok (.iload 4, 2) := by decide +kernel
theorem dX4_execute_94 : decode cX4_execute 94 = .ok (.iload 5, 2) := by decide +kernel
theorem dX4_execute_96 : decode cX4_execute 96 = .ok (.iconst 1, 1) := by decide +kernel
theorem dX4_execute_97 : decode cX4_execute 97 = .ok (.isub, 1) := by decide +kernel
theorem dX4_execute_98 : decode cX4_execute 98 = .ok (.invokevirtual 61, 3) := by decide +kernel
theorem dX4_execute_101 : decode cX4_execute 101 = .ok (.iconst 1, 1) := by decide +kernel
theorem dX4_execute_102 : decode cX4_execute 102 = .ok (.isub, 1) := by decide +kernel
theorem dX4_execute_103 : decode cX4_execute 103 = .ok (.istore 9, 2) := by decide +kernel
theorem dX4_execute_105 : decode cX4_execute 105 = .ok (.iload 9, 2) := by decide +kernel
theorem dX4_execute_107 : decode cX4_execute 107 = .ok (.ifCond .le 30, 3) := by decide +kernel
theorem dX4_execute_110 : decode cX4_execute 110 = .ok (.aload_n 0, 1) := by decide +kernel
theorem dX4_execute_111 : decode cX4_execute 111 = .ok (.invokevirtual 51, 3) := by decide +kernel
theorem dX4_execute_114 : decode cX4_execute 114 = .ok (.aload_n 0, 1) := by decide +kernel
theorem dX4_execute_115 : decode cX4_execute 115 = .ok (.iload 4, 2) := by decide +kernel
theorem dX4_execute_117 : decode cX4_execute 117 = .ok (.iload 5, 2) := by decide +kernel
theorem dX4_execute_119 : decode cX4_execute 119 = .ok (.iconst 1, 1) := by decide +kernel
theorem dX4_execute_120 : decode cX4_execute 120 = .ok (.isub, 1) := by decide +kernel
theorem dX4_execute_121 : decode cX4_execute 121 = .ok (.iload 9, 2) := by decide +kernel
theorem dX4_execute_123 : decode cX4_execute 123 = .ok (.invokevirtual 54, 3) := by decide +kernel
theorem dX4_execute_126 : decode cX4_execute 126 = .ok (.aload_n 1, 1) := by decide +kernel
theorem dX4_execute_127 : decode cX4_execute 127 = .ok (.iload 6, 2) := by decide +kernel
theorem dX4_execute_129 : decode cX4_execute 129 = .ok (.invokevirtual 58, 3) := by decide +kernel
theorem dX4_execute_132 : decode cX4_execute 132 = .ok (.istore 6, 2) := by decide +kernel
theorem dX4_execute_134 : decode cX4_execute 134 = .ok (.goto 6, 3) := by decide +kernel
theorem dX4_execute_137 : decode cX4_execute 137 = .ok (.iinc 5 (-1), 3) := by decide +kernel
theorem dX4_execute_140 : decode cX4_execute 140 = .ok (.goto 40, 3) := by decide +kernel
theorem dX4_execute_143 : decode cX4_execute 143 = .ok (.iload 8, 2) := by decide +kernel
theorem dX4_execute_145 : decode cX4_execute 145 = .ok (.invokestatic 65, 3) := by decide +kernel
theorem dX4_execute_148 : decode cX4_execute 148 = .ok (.ifCond .lt 19, 3) := by decide +kernel
theorem dX4_execute_151 : decode cX4_execute 151 = .ok (.aload_n 0, 1) := by decide +kernel
theorem dX4_execute_152 : decode cX4_execute 152 = .ok (.iload 8, 2) := by decide +kernel
theorem dX4_execute_154 : decode cX4_execute 154 = .ok (.invokestatic 65, 3) := by decide +kernel
theorem dX4_execute_157 : decode cX4_execute 157 = .ok (.aload_n 2, 1) := by decide +kernel
theorem dX4_execute_158 : decode cX4_execute 158 = .ok (.aload_n 3, 1) := by decide +kernel
theorem dX4_execute_159 : decode cX4_execute 159 = .ok (.iload 4, 2) := by decide +kernel
theorem dX4_execute_161 : decode cX4_execute 161 = .ok (.invokevirtual 68, 3) := by decide +kernel
theorem dX4_execute_164 : decode cX4_execute 164 = .ok (.goto 16, 3) := by decide +kernel
theorem dX4_execute_167 : decode cX4_execute 167 = .ok (.aload_n 0, 1) := by decide +kernel
theorem dX4_execute_168 : decode cX4_execute 168 = .ok (.iload 8, 2) := by decide +kernel
theorem dX4_execute_170 : decode cX4_execute 170 = .ok (.aload_n 1, 1) := by decide +kernel
theorem dX4_execute_171 : decode cX4_execute 171 = .ok (.iload 6, 2) := by decide +kernel
theorem dX4_execute_173 : decode cX4_execute 173 = .ok (.invokevirtual 48, 3) := by decide +kernel
theorem dX4_execute_176 : decode cX4_execute 176 = .ok (.aload_n 3, 1) := by decide +kernel
theorem dX4_execute_177 : decode cX4_execute 177 = .ok (.invokevirtual 72, 3) := by decide +kernel
theorem dX4_execute_180 : decode cX4_execute 180 = .ok (.iinc 6 1, 3) := by decide +kernel
theorem dX4_execute_183 : decode cX4_execute 183 = .ok (.iinc 7 1, 3) := by decide +kernel
theorem dX4_execute_186 : decode cX4_execute 186 = .ok (.goto (-177), 3) := by decide +kernel
theorem dX4_execute_189 : decode cX4_execute 189 = .ok (.return_, 1) := by decide +kernel
theorem dX5_init_0 : decode cX5_init 0 = .ok (.aload_n 0, 1) := by decide +kernel
theorem dX5_init_1 : decode cX5_init 1 = .ok (.invokespecial 3, 3) := by decide +kernel
theorem dX5_init_4 : decode cX5_init 4 = .ok (.aload_n 0, 1) := by decide +kernel
theorem dX5_init_5 : decode cX5_init 5 = .ok (.sipush 300, 3) := by decide +kernel
theorem dX5_init_8 : decode cX5_init 8 = .ok (.newarray .int, 2) := by decide +kernel
theorem dX5_init_10 : decode cX5_init 10 = .ok (.putfield 9, 3) := by decide +kernel
theorem dX5_init_13 : decode cX5_init 13 = .ok (.aload_n 0, 1) := by decide +kernel
theorem dX5_init_14 : decode cX5_init 14 = .ok (.sipush 300, 3) := by decide +kernel
theorem dX5_init_17 : decode cX5_init 17 = .ok (.newarray .int, 2) := by decide +kernel
theorem dX5_init_19 : decode cX5_init 19 = .ok (.putfield 15, 3) := by decide +kernel
theorem dX5_init_22 : decode cX5_init 22 = .ok (.return_, 1) := by decide +kernel
theorem dX5_gather_0 : decode cX5_gather 0 = .ok (.aload_n 0, 1) := by decide +kernel
theorem dX5_gather_1 : decode cX5_gather 1 = .ok (.iconst 0, 1) := by decide +kernel
theorem dX5_gather_2 : decode cX5_gather 2 = .ok (.putfield 18, 3) := by decide +kernel
theorem dX5_gather_5 : decode cX5_gather 5 = .ok (.aload_n 1, 1) := by decide +kernel
theorem dX5_gather_6 : decode cX5_gather 6 = .ok (.invokestatic 22, 3) := by decide +kernel
theorem dX5_gather_9 : decode cX5_gather 9 = .ok (.istore_n 2, 1) := by decide +kernel
theorem dX5_gather_10 : decode cX5_gather 10 = .ok (.iconst 0, 1) := by decide +kernel
theorem dX5_gather_11 : decode cX5_gather 11 = .ok (.istore_n 3, 1) := by decide +kernel
theorem dX5_gather_12 : decode cX5_gather 12 = .ok (.iconst 0, 1) := by decide +kernel
theorem dX5_gather_13 : decode cX5_gather 13 = .ok (.istore 4, 2) := by decide +kernel
theorem dX5_gather_15 : decode cX5_gather 15 = .ok (.iload 4, 2) := by decide +kernel
theorem dX5_gather_17 : decode cX5_gather 17 = .ok (.aload_n 1, 1) := by decide +kernel
theorem dX5_gather_18 : decode cX5_gather 18 = .ok (.getfield 26, 3) := by decide +kernel
theorem dX5_gather_21 : decode cX5_gather 21 = .ok (.if_icmp .ge 94, 3) := by decide +kernel
theorem dX5_gather_24 : decode cX5_gather 24 = .ok (.iload_n 2, 1) := by decide +kernel
theorem dX5_gather_25 : decode cX5_gather 25 = .ok (.iload 4, 2) := by decide +kernel
theorem dX5_gather_27 : decode cX5_gather 27 = .ok (.iadd, 1) := by decide +kernel
theorem dX5_gather_28 : decode cX5_gather 28 = .ok (.aload_n 1, 1) := by decide +kernel
theorem dX5_gather_29 : decode cX5_gather 29 = .ok (.getfield 26, 3) := by decide +kernel
theorem dX5_gather_32 : decode cX5_gather 32 = .ok (.invokestatic 31, 3) := by decide +kernel
theorem dX5_gather_35 : decode cX5_gather 35 = .ok (.istore 5, 2) := by decide +kernel
theorem dX5_gather_37 : decode cX5_gather 37 = .ok (.iload_n 3, 1) := by decide +kernel
theorem dX5_gather_38 : decode cX5_gather 38 = .ok (.aload_n 1, 1) := by decide +kernel
theorem dX5_gather_39 : decode cX5_gather 39 = .ok (.iload 5, 2) := by decide +kernel
theorem dX5_gather_41 : decode cX5_gather 41 = .ok (.invokevirtual 35, 3) := by decide +kernel
theorem dX5_gather_44 : decode cX5_gather 44 = .ok (.iadd, 1) := by decide +kernel
theorem dX5_gather_45 : decode cX5_gather 45 = .ok (.istore_n 3, 1) := by decide +kernel
theorem dX5_gather_46 : decode cX5_gather 46 = .ok (.aload_n 1, 1) := by decide +kernel
theorem dX5_gather_47 : decode cX5_gather 47 = .ok (.iload 5, 2) := by decide +kernel
theorem dX5_gather_49 : decode cX5_gather 49 = .ok (.invokestatic 39, 3) := by decide +kernel
theorem dX5_gather_52 : decode cX5_gather 52 = .ok (.istore 6, 2) := by decide +kernel
theorem dX5_gather_54 : decode cX5_gather 54 = .ok (.iload 6, 2) := by decide +kernel
theorem dX5_gather_56 : decode cX5_gather 56 = .ok (.ifCond .eq 53, 3) := by decide +kernel
theorem dX5_gather_59 : decode cX5_gather 59 = .ok (.aload_n 0, 1) := by decide +kernel
theorem dX5_gather_60 : decode cX5_gather 60 = .ok (.getfield 18, 3) := by decide +kernel
theorem dX5_gather_63 : decode cX5_gather 63 = .ok (.ifCond .lt 46, 3) := by decide +kernel
theorem dX5_gather_66 : decode cX5_gather 66 = .ok (.aload_n 0, 1) := by decide +kernel
theorem dX5_gather_67 : decode cX5_gather 67 = .ok (.getfield 18, 3) := by decide +kernel
theorem dX5_gather_70 : decode cX5_gather 70 = .ok (.sipush 300, 3) := by decide +kernel
theorem dX5_gather_73 : decode cX5_gather 73 = .ok (.if_icmp .ge 36, 3) := by decide +kernel
theorem dX5_gather_76 : decode cX5_gather 76 = .ok (.aload_n 0, 1) := by decide +kernel
theorem dX5_gather_77 : decode cX5_gather 77 = .ok (.getfield 9, 3) := by decide +kernel
theorem dX5_gather_80 : decode cX5_gather 80 = .ok (.aload_n 0, 1) := by decide +kernel
theorem dX5_gather_81 : decode cX5_gather 81 = .ok (.getfield 18, 3) := by decide +kernel
theorem dX5_gather_84 : decode cX5_gather 84 = .ok (.iload_n 3, 1) := by decide +kernel
theorem dX5_gather_85 : decode cX5_gather 85 = .ok (.iastore, 1) := by decide +kernel
theorem dX5_gather_86 : decode cX5_gather 86 = .ok (.aload_n 0, 1) := by decide +kernel
theorem dX5_gather_87 : decode cX5_gather 87 = .ok (.getfield 15, 3) := by decide +kernel
theorem dX5_gather_90 : decode cX5_gather 90 = .ok (.aload_n 0, 1) := by decide +kernel
theorem dX5_gather_91 : decode cX5_gather 91 = .ok (.getfield 18, 3) := by decide +kernel
theorem dX5_gather_94 : decode cX5_gather 94 = .ok (.iload 6, 2) := by decide +kernel
theorem dX5_gather_96 : decode cX5_gather 96 = .ok (.iastore, 1) := by decide +kernel
theorem dX5_gather_97 : decode cX5_gather 97 = .ok (.aload_n 0, 1) := by decide +kernel
theorem dX5_gather_98 : decode cX5_gather 98 = .ok (.dup, 1) := by decide +kernel
theorem dX5_gather_99 : decode cX5_gather 99 = .ok (.getfield 18, 3) := by decide +kernel
theorem dX5_gather_102 : decode cX5_gather 102 = .ok (.iconst 1, 1) := by decide +kernel
theorem dX5_gather_103 : decode cX5_gather 103 = .ok (.iadd, 1) := by decide +kernel
theorem dX5_gather_104 : decode cX5_gather 104 = .ok (.putfield 18, 3) := by decide +kernel
theorem dX5_gather_107 : decode cX5_gather 107 = .ok (.iconst 0, 1) := by decide +kernel
theorem dX5_gather_108 : decode cX5_gather 108 = .ok (.istore_n 3, 1) := by decide +kernel
theorem dX5_gather_109 : decode cX5_gather 109 = .ok (.iinc 4 1, 3) := by decide +kernel
theorem dX5_gather_112 : decode cX5_gather 112 = .ok (.goto (-97), 3) := by decide +kernel
theorem dX5_gather_115 : decode cX5_gather 115 = .ok (.return_, 1) := by decide +kernel
theorem dX5_firstOfSide_0 : decode cX5_firstOfSide 0 = .ok (.iconst 0, 1) := by decide +kernel
theorem dX5_firstOfSide_1 : decode cX5_firstOfSide 1 = .ok (.istore_n 1, 1) := by decide +kernel
theorem dX5_firstOfSide_2 : decode cX5_firstOfSide 2 = .ok (.iload_n 1, 1) := by decide +kernel
theorem dX5_firstOfSide_3 : decode cX5_firstOfSide 3 = .ok (.aload_n 0, 1) := by decide +kernel
theorem dX5_firstOfSide_4 : decode cX5_firstOfSide 4 = .ok (.getfield 26, 3) := by decide +kernel
theorem dX5_firstOfSide_7 : decode cX5_firstOfSide 7 = .ok (.if_icmp .ge 28, 3) := by decide +kernel
theorem dX5_firstOfSide_10 : decode cX5_firstOfSide 10 = .ok (.aload_n 0, 1) := by decide +kernel
theorem dX5_firstOfSide_11 : decode cX5_firstOfSide 11 = .ok (.iload_n 1, 1) := by decide +kernel
theorem dX5_firstOfSide_12 : decode cX5_firstOfSide 12 = .ok (.invokestatic 39, 3) := by decide +kernel
theorem dX5_firstOfSide_15 : decode cX5_firstOfSide 15 = .ok (.ifCond .eq 14, 3) := by decide +kernel
theorem dX5_firstOfSide_18 : decode cX5_firstOfSide 18 = .ok (.iload_n 1, 1) := by decide +kernel
theorem dX5_firstOfSide_19 : decode cX5_firstOfSide 19 = .ok (.iconst 1, 1) := by decide +kernel
theorem dX5_firstOfSide_20 : decode cX5_firstOfSide 20 = .ok (.iadd, 1) := by decide +kernel
theorem dX5_firstOfSide_21 : decode cX5_firstOfSide 21 = .ok (.aload_n 0, 1) := by decide +kernel
theorem dX5_firstOfSide_22 : decode cX5_firstOfSide 22 = .ok (.getfield 26, 3) := by decide +kernel
theorem dX5_firstOfSide_25 : decode cX5_firstOfSide 25 = .ok (.invokestatic 31, 3) := by decide +kernel
theorem dX5_firstOfSide_28 : decode cX5_firstOfSide 28 = .ok (.ireturn, 1) := by decide +kernel
theorem dX5_firstOfSide_29 : decode cX5_firstOfSide 29 = .ok (.iinc 1 1, 3) := by decide +kernel
theorem dX5_firstOfSide_32 : decode cX5_firstOfSide 32 = .ok (.goto (-30), 3) := by decide +kernel
theorem dX5_firstOfSide_35 : decode cX5_firstOfSide 35 = .ok (.iconst 0, 1) := by decide +kernel
theorem dX5_firstOfSide_36 : decode cX5_firstOfSide 36 = .ok (.ireturn, 1) := by decide +kernel
theorem dX6_init_0 : decode cX6_init 0 = .ok (.aload_n 0, 1) := by decide +kernel
theorem dX6_init_1 : decode cX6_init 1 = .ok (.invokespecial 3, 3) := by decide +kernel
theorem dX6_init_4 : decode cX6_init 4 = .ok (.aload_n 0, 1) := by decide +kernel
theorem dX6_init_5 : decode cX6_init 5 = .ok (.sipush 1640, 3) := by decide +kernel
theorem dX6_init_8 : decode cX6_init 8 = .ok (.newarray .int, 2) := by decide +kernel
theorem dX6_init_10 : decode cX6_init 10 = .ok (.putfield 9, 3) := by decide +kernel
theorem dX6_init_13 : decode cX6_init 13 = .ok (.return_, 1) := by decide +kernel
theorem dX6_measure_0 : decode cX6_measure 0 = .ok (.iconst 1, 1) := by decide +kernel
theorem dX6_measure_1 : decode cX6_measure 1 = .ok (.istore_n 2, 1) := by decide +kernel
theorem dX6_measure_2 : decode cX6_measure 2 = .ok (.iload_n 2, 1) := by decide +kernel
theorem dX6_measure_3 : decode cX6_measure 3 = .ok (.aload_n 1, 1) := by decide +kernel
theorem dX6_measure_4 : decode cX6_measure 4 = .ok (.getfield 15, 3) := by decide +kernel
theorem dX6_measure_7 : decode cX6_measure 7 = .ok (.if_icmp .gt 46, 3) := by decide +kernel
theorem dX6_measure_10 : decode cX6_measure 10 = .ok (.iload_n 2, 1) := by decide +kernel
theorem dX6_measure_11 : decode cX6_measure 11 = .ok (.bipush 40, 2) := by decide +kernel
theorem dX6_measure_13 : decode cX6_measure 13 = .ok (.if_icmp .gt 40, 3) := by decide +kernel
theorem dX6_measure_16 : decode cX6_measure 16 = .ok (.iconst 0, 1) := by decide +kernel
theorem dX6_measure_17 : decode cX6_measure 17 = .ok (.istore_n 3, 1) := by decide +kernel
theorem dX6_measure_18 : decode cX6_measure 18 = .ok (.iload_n 3, 1) := by decide +kernel
theorem dX6_measure_19 : decode cX6_measure 19 = .ok (.iload_n 2, 1) := by decide +kernel
theorem dX6_measure_20 : decode cX6_measure 20 = .ok (.iadd, 1) := by decide +kernel
theorem dX6_measure_21 : decode cX6_measure 21 = .ok (.aload_n 1, 1) := by decide +kernel
theorem dX6_measure_22 : decode cX6_measure 22 = .ok (.getfield 15, 3) := by decide +kernel
theorem dX6_measure_25 : decode cX6_measure 25 = .ok (.if_icmp .gt 22, 3) := by decide +kernel
theorem dX6_measure_28 : decode cX6_measure 28 = .ok (.aload_n 0, 1) := by decide +kernel
theorem dX6_measure_29 : decode cX6_measure 29 = .ok (.iload_n 3, 1) := by decide +kernel
theorem dX6_measure_30 : decode cX6_measure 30 = .ok (.iload_n 2, 1) := by decide +kernel
theorem dX6_measure_31 : decode cX6_measure 31 = .ok (.aload_n 0, 1) := by decide +kernel
theorem dX6_measure_32 : decode cX6_measure 32 = .ok (.aload_n 1, 1) := by decide +kernel
theorem dX6_measure_33 : decode cX6_measure 33 = .ok (.iload_n 3, 1) := by decide +kernel
theorem dX6_measure_34 : decode cX6_measure 34 = .ok (.iload_n 2, 1) := by decide +kernel
theorem dX6_measure_35 : decode cX6_measure 35 = .ok (.invokevirtual 21, 3) := by decide +kernel
theorem dX6_measure_38 : decode cX6_measure 38 = .ok (.invokevirtual 25, 3) := by decide +kernel
theorem dX6_measure_41 : decode cX6_measure 41 = .ok (.iinc 3 1, 3) := by decide +kernel
theorem dX6_measure_44 : decode cX6_measure 44 = .ok (.goto (-26), 3) := by decide +kernel
theorem dX6_measure_47 : decode cX6_measure 47 = .ok (.iinc 2 1, 3) := by decide +kernel
theorem dX6_measure_50 : decode cX6_measure 50 = .ok (.goto (-48), 3) := by decide +kernel
theorem dX6_measure_53 : decode cX6_measure 53 = .ok (.aload_n 0, 1) := by decide +kernel
theorem dX6_measure_54 : decode cX6_measure 54 = .ok (.iconst 0, 1) := by decide +kernel
theorem dX6_measure_55 : decode cX6_measure 55 = .ok (.aload_n 1, 1) := by decide +kernel
theorem dX6_measure_56 : decode cX6_measure 56 = .ok (.getfield 15, 3) := by decide +kernel
theorem dX6_measure_59 : decode cX6_measure 59 = .ok (.invokevirtual 29, 3) := by decide +kernel
theorem dX6_measure_62 : decode cX6_measure 62 = .ok (.ireturn, 1) := by decide +kernel
theorem dX6_get_0 : decode cX6_get 0 = .ok (.iload_n 1, 1) := by decide +kernel
theorem dX6_get_1 : decode cX6_get 1 = .ok (.ifCond .lt 20, 3) := by decide +kernel
theorem dX6_get_4 : decode cX6_get 4 = .ok (.iload_n 1, 1) := by decide +kernel
theorem dX6_get_5 : decode cX6_get 5 = .ok (.bipush 40, 2) := by decide +kernel
theorem dX6_get_7 : decode cX6_get 7 = .ok (.if_icmp .ge 14, 3) := by decide +kernel
theorem dX6_get_10 : decode cX6_get 10 = .ok (.iload_n 2, 1) := by decide +kernel
theorem dX6_get_11 : decode cX6_get 11 = .ok (.iconst 1, 1) := by decide +kernel
theorem dX6_get_12 : decode cX6_get 12 = .ok (.if_icmp .lt 9, 3) := by decide +kernel
theorem dX6_get_15 : decode cX6_get 15 = .ok (.iload_n 2, 1) := by decide +kernel
theorem dX6_get_16 : decode cX6_get 16 = .ok (.bipush 40, 2) := by decide +kernel
theorem dX6_get_18 : decode cX6_get 18 = .ok (.if_icmp .le 5, 3) := by decide +kernel
theorem dX6_get_21 : decode cX6_get 21 = .ok (.iconst 0, 1) := by decide +kernel
theorem dX6_get_22 : decode cX6_get 22 = .ok (.ireturn, 1) := by decide +kernel
theorem dX6_get_23 : decode cX6_get 23 = .ok (.aload_n 0, 1) := by decide +kernel
theorem dX6_get_24 : decode cX6_get 24 = .ok (.getfield 9, 3) := by decide +kernel
theorem dX6_get_27 : decode cX6_get 27 = .ok (.iload_n 1, 1) := by decide +kernel
theorem dX6_get_28 : decode cX6_get 28 = .ok (.bipush 41, 2) := by decide +kernel
theorem dX6_get_30 : decode cX6_get 30 = .ok (.imul, 1) := by decide +kernel
theorem dX6_get_31 : decode cX6_get 31 = .ok (.iload_n 2, 1) := by decide +kernel
theorem dX6_get_32 : decode cX6_get 32 = .ok (.iadd, 1) := by decide +kernel
theorem dX6_get_33 : decode cX6_get 33 = .ok (.iaload, 1) := by decide +kernel
theorem dX6_get_34 : decode cX6_get 34 = .ok (.ireturn, 1) := by decide +kernel
theorem dX7_init_0 : decode cX7_init 0 = .ok (.aload_n 0, 1) := by decide +kernel
theorem dX7_init_1 : decode cX7_init 1 = .ok (.invokespecial 3, 3) := by decide +kernel
theorem dX7_init_4 : decode cX7_init 4 = .ok (.aload_n 0, 1) := by decide +kernel
theorem dX7_init_5 : decode cX7_init 5 = .ok (.sipush 1204, 3) := by decide +kernel
theorem dX7_init_8 : decode cX7_init 8 = .ok (.newarray .int, 2) := by decide +kernel
theorem dX7_init_10 : decode cX7_init 10 = .ok (.putfield 9, 3) := by decide +kernel
theorem dX7_init_13 : decode cX7_init 13 = .ok (.aload_n 0, 1) := by decide +kernel
theorem dX7_init_14 : decode cX7_init 14 = .ok (.sipush 300, 3) := by decide +kernel
theorem dX7_init_17 : decode cX7_init 17 = .ok (.newarray .boolean, 2) := by decide +kernel
theorem dX7_init_19 : decode cX7_init 19 = .ok (.putfield 15, 3) := by decide +kernel
theorem dX7_init_22 : decode cX7_init 22 = .ok (.aload_n 0, 1) := by decide +kernel
theorem dX7_init_23 : decode cX7_init 23 = .ok (.sipush 300, 3) := by decide +kernel
theorem dX7_init_26 : decode cX7_init 26 = .ok (.newarray .int, 2) := by decide +kernel
theorem dX7_init_28 : decode cX7_init 28 = .ok (.putfield 19, 3) := by decide +kernel
theorem dX7_init_31 : decode cX7_init 31 = .ok (.aload_n 0, 1) := by decide +kernel
theorem dX7_init_32 : decode cX7_init 32 = .ok (.sipush 300, 3) := by decide +kernel
theorem dX7_init_35 : decode cX7_init 35 = .ok (.newarray .int, 2) := by decide +kernel
theorem dX7_init_37 : decode cX7_init 37 = .ok (.putfield 22, 3) := by decide +kernel
theorem dX7_init_40 : decode cX7_init 40 = .ok (.aload_n 0, 1) := by decide +kernel
theorem dX7_init_41 : decode cX7_init 41 = .ok (.iconst 4, 1) := by decide +kernel
theorem dX7_init_42 : decode cX7_init 42 = .ok (.putfield 25, 3) := by decide +kernel
theorem dX7_init_45 : decode cX7_init 45 = .ok (.return_, 1) := by decide +kernel
theorem dX7_restart_0 : decode cX7_restart 0 = .ok (.aload_n 0, 1) := by decide +kernel
theorem dX7_restart_1 : decode cX7_restart 1 = .ok (.iload_n 1, 1) := by decide +kernel
theorem dX7_restart_2 : decode cX7_restart 2 = .ok (.putfield 25, 3) := by decide +kernel
theorem dX7_restart_5 : decode cX7_restart 5 = .ok (.aload_n 0, 1) := by decide +kernel
theorem dX7_restart_6 : decode cX7_restart 6 = .ok (.iconst 0, 1) := by decide +kernel
theorem dX7_restart_7 : decode cX7_restart 7 = .ok (.putfield 29, 3) := by decide +kernel
theorem dX7_restart_10 : decode cX7_restart 10 = .ok (.aload_n 0, 1) := by decide +kernel
theorem dX7_restart_11 : decode cX7_restart 11 = .ok (.iconst 0, 1) := by decide +kernel
theorem dX7_restart_12 : decode cX7_restart 12 = .ok (.putfield 32, 3) := by decide +kernel
theorem dX7_restart_15 : decode cX7_restart 15 = .ok (.return_, 1) := by decide +kernel
theorem dX7_partAt_0 : decode cX7_partAt 0 = .ok (.iload_n 1, 1) := by decide +kernel
theorem dX7_partAt_1 : decode cX7_partAt 1 = .ok (.ifCond .lt 19, 3) := by decide +kernel
theorem dX7_partAt_4 : decode cX7_partAt 4 = .ok (.iload_n 1, 1) := by decide +kernel
theorem dX7_partAt_5 : decode cX7_partAt 5 = .ok (.sipush 300, 3) := by decide +kernel
theorem dX7_partAt_8 : decode cX7_partAt 8 = .ok (.if_icmp .gt 12, 3) := by decide +kernel
theorem dX7_partAt_11 : decode cX7_partAt 11 = .ok (.iload_n 2, 1) := by decide +kernel
theorem dX7_partAt_12 : decode cX7_partAt 12 = .ok (.ifCond .lt 8, 3) := by decide +kernel
theorem dX7_partAt_15 : decode cX7_partAt 15 = .ok (.iload_n 2, 1) := by decide +kernel
theorem dX7_partAt_16 : decode cX7_partAt 16 = .ok (.iconst 4, 1) := by decide +kernel
theorem dX7_partAt_17 : decode cX7_partAt 17 = .ok (.if_icmp .lt 5, 3) := by decide +kernel
theorem dX7_partAt_20 : decode cX7_partAt 20 = .ok (.iconst 0, 1) := by decide +kernel
theorem dX7_partAt_21 : decode cX7_partAt 21 = .ok (.ireturn, 1) := by decide +kernel
theorem dX7_partAt_22 : decode cX7_partAt 22 = .ok (.aload_n 0, 1) := by decide +kernel
theorem dX7_partAt_23 : decode cX7_partAt 23 = .ok (.getfield 9, 3) := by decide +kernel
theorem dX7_partAt_26 : decode cX7_partAt 26 = .ok (.iconst 4, 1) := by decide +kernel
theorem dX7_partAt_27 : decode cX7_partAt 27 = .ok (.iload_n 1, 1) := by decide +kernel
theorem dX7_partAt_28 : decode cX7_partAt 28 = .ok (.imul, 1) := by decide +kernel
theorem dX7_partAt_29 : decode cX7_partAt 29 = .ok (.iload_n 2, 1) := by decide +kernel
theorem dX7_partAt_30 : decode cX7_partAt 30 = .ok (.iadd, 1) := by decide +kernel
theorem dX7_partAt_31 : decode cX7_partAt 31 = .ok (.iaload, 1) := by decide +kernel
theorem dX7_partAt_32 : decode cX7_partAt 32 = .ok (.ireturn, 1) := by decide +kernel
theorem dX7_endsAtStart_0 : decode cX7_endsAtStart 0 = .ok (.iconst 0, 1) := by decide +kernel
theorem dX7_endsAtStart_1 : decode cX7_endsAtStart 1 = .ok (.istore_n 1, 1) := by decide +kernel
theorem dX7_endsAtStart_2 : decode cX7_endsAtStart 2 = .ok (.iload_n 1, 1) := by decide +kernel
theorem dX7_endsAtStart_3 : decode cX7_endsAtStart 3 = .ok (.iconst 4, 1) := by decide +kernel
theorem dX7_endsAtStart_4 : decode cX7_endsAtStart 4 = .ok (.if_icmp .ge 23, 3) := by decide +kernel
theorem dX7_endsAtStart_7 : decode cX7_endsAtStart 7 = .ok (.aload_n 0, 1) := by decide +kernel
theorem dX7_endsAtStart_8 : decode cX7_endsAtStart 8 = .ok (.aload_n 0, 1) := by decide +kernel
theorem dX7_endsAtStart_9 : decode cX7_endsAtStart 9 = .ok (.getfield 29, 3) := by decide +kernel
theorem dX7_endsAtStart_12 : decode cX7_endsAtStart 12 = .ok (.iload_n 1, 1) := by decide +kernel
theorem dX7_endsAtStart_13 : decode cX7_endsAtStart 13 = .ok (.invokevirtual 36, 3) := by decide +kernel
theorem dX7_endsAtStart_16 : decode cX7_endsAtStart 16 = .ok (.ifCond .eq 5, 3) := by decide +kernel
theorem dX7_endsAtStart_19 : decode cX7_endsAtStart 19 = .ok (.iconst 0, 1) := by decide +kernel
theorem dX7_endsAtStart_20 : decode cX7_endsAtStart 20 = .ok (.ireturn, 1) := by decide +kernel
theorem dX7_endsAtStart_21 : decode cX7_endsAtStart 21 = .ok (.iinc 1 1, 3) := by decide +kernel
theorem dX7_endsAtStart_24 : decode cX7_endsAtStart 24 = .ok (.goto (-22), 3) := by decide +kernel
theorem dX7_endsAtStart_27 : decode cX7_endsAtStart 27 = .ok (.iconst 1, 1) := by decide +kernel
theorem dX7_endsAtStart_28 : decode cX7_endsAtStart 28 = .ok (.ireturn, 1) := by decide +kernel
