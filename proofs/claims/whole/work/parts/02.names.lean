def RX0 : String := "LeadFaults$Chord"
def RX1 : String := "LeadFaults$Entries"
def RX2 : String := "LeadFaults$Findings"
def RX3 : String := "LeadFaults$Judging"
def RX4 : String := "LeadFaults$Part"
def RX5 : String := "LeadFaults$Timeline"
def RX6 : String := "LeadFaults"
def RX7 : String := "LeadFaultsModel"
def RJ6 : String := "java/lang/Integer"
def RJ9 : String := "java/lang/Math"
def RJ7 : String := "java/util/Arrays"
def RJ10 : String := "java/lang/System"
def RL : String := "LeadFaultsLaw"
def TX0 : u_T := fun k => match k with
  | 0 => ("LeadFaults$Chord", "sounds", "[Z", true)
  | 1 => ("LeadFaults$Chord", "steps", "[I", true)
  | 2 => ("LeadFaults$Chord", "sharps", "[I", true)
  | _ => ("LeadFaults$Chord", "heights", "[I", true)
def tyX0 : Nat → FieldType := fun k => match k with
  | 0 => .array .boolean
  | 1 => .array .int
  | 2 => .array .int
  | _ => .array .int
def TX1 : u_T := fun k => match k with
  | 0 => ("LeadFaults$Entries", "firsts", "[I", true)
  | 1 => ("LeadFaults$Entries", "seconds", "[I", true)
  | _ => ("LeadFaults$Entries", "size", "I", false)
def tyX1 : Nat → FieldType := fun k => match k with
  | 0 => .array .int
  | 1 => .array .int
  | _ => .int
def TX2 : u_T := fun k => match k with
  | 0 => ("LeadFaults$Findings", "marks", "[I", true)
  | 1 => ("LeadFaults$Findings", "times", "[I", true)
  | 2 => ("LeadFaults$Findings", "moments", "I", false)
  | 3 => ("LeadFaults$Findings", "toldOfKind", "[I", true)
  | 4 => ("LeadFaults$Findings", "told", "I", false)
  | _ => ("LeadFaults$Findings", "excepted", "I", false)
def tyX2 : Nat → FieldType := fun k => match k with
  | 0 => .array .int
  | 1 => .array .int
  | 2 => .int
  | 3 => .array .int
  | 4 => .int
  | _ => .int
def TX3 : u_T := fun k => match k with
  | 0 => ("LeadFaults$Judging", "findings", "LLeadFaults$Findings;", true)
  | 1 => ("LeadFaults$Judging", "first", "LLeadFaults$Chord;", false)
  | 2 => ("LeadFaults$Judging", "second", "LLeadFaults$Chord;", false)
  | 3 => ("LeadFaults$Judging", "moment", "I", false)
  | 4 => ("LeadFaults$Judging", "voices", "I", false)
  | 5 => ("LeadFaults$Judging", "ruleBits", "I", false)
  | 6 => ("LeadFaults$Judging", "leadingLetter", "I", false)
  | _ => ("LeadFaults$Judging", "leadingSharpness", "I", false)
def tyX3 : Nat → FieldType := fun k => match k with
  | 0 => .object "LeadFaults$Findings"
  | 1 => .object "LeadFaults$Chord"
  | 2 => .object "LeadFaults$Chord"
  | 3 => .int
  | 4 => .int
  | 5 => .int
  | 6 => .int
  | _ => .int
def TX4 : u_T := fun k => match k with
  | 0 => ("LeadFaults$Part", "times", "[I", true)
  | 1 => ("LeadFaults$Part", "steps", "[I", true)
  | 2 => ("LeadFaults$Part", "sharps", "[I", true)
  | 3 => ("LeadFaults$Part", "size", "I", false)
  | 4 => ("LeadFaults$Part", "low", "I", false)
  | _ => ("LeadFaults$Part", "high", "I", false)
def tyX4 : Nat → FieldType := fun k => match k with
  | 0 => .array .int
  | 1 => .array .int
  | 2 => .array .int
  | 3 => .int
  | 4 => .int
  | _ => .int
def TX5 : u_T := fun k => match k with
  | 0 => ("LeadFaults$Timeline", "times", "[I", true)
  | 1 => ("LeadFaults$Timeline", "size", "I", false)
  | _ => ("LeadFaults$Timeline", "heads", "[I", true)
def tyX5 : Nat → FieldType := fun k => match k with
  | 0 => .array .int
  | 1 => .int
  | _ => .array .int
def TX6 : u_T := fun k => match k with
  | 0 => ("LeadFaults", "parts", "[LLeadFaults$Part;", true)
  | 1 => ("LeadFaults", "timeline", "LLeadFaults$Timeline;", true)
  | 2 => ("LeadFaults", "repeats", "LLeadFaults$Entries;", true)
  | 3 => ("LeadFaults", "exceptions", "LLeadFaults$Entries;", true)
  | 4 => ("LeadFaults", "judging", "LLeadFaults$Judging;", true)
  | 5 => ("LeadFaults", "chord", "LLeadFaults$Chord;", true)
  | 6 => ("LeadFaults", "ruleBits", "I", false)
  | 7 => ("LeadFaults", "fifths", "I", false)
  | _ => ("LeadFaults", "ticks", "I", false)
def tyX6 : Nat → FieldType := fun k => match k with
  | 0 => .array (.object "LeadFaults$Part")
  | 1 => .object "LeadFaults$Timeline"
  | 2 => .object "LeadFaults$Entries"
  | 3 => .object "LeadFaults$Entries"
  | 4 => .object "LeadFaults$Judging"
  | 5 => .object "LeadFaults$Chord"
  | 6 => .int
  | 7 => .int
  | _ => .int
def TX7 : u_T := fun k => match k with
  | 0 => ("LeadFaultsModel", "voices", "I", false)
  | 1 => ("LeadFaultsModel", "many", "[I", true)
  | 2 => ("LeadFaultsModel", "times", "[I", true)
  | 3 => ("LeadFaultsModel", "steps", "[I", true)
  | 4 => ("LeadFaultsModel", "sharps", "[I", true)
  | 5 => ("LeadFaultsModel", "low", "[I", true)
  | 6 => ("LeadFaultsModel", "high", "[I", true)
  | 7 => ("LeadFaultsModel", "isOn", "[Z", true)
  | 8 => ("LeadFaultsModel", "key", "I", false)
  | 9 => ("LeadFaultsModel", "grid", "I", false)
  | 10 => ("LeadFaultsModel", "repeats", "I", false)
  | 11 => ("LeadFaultsModel", "repeatFrom", "[I", true)
  | 12 => ("LeadFaultsModel", "repeatTo", "[I", true)
  | 13 => ("LeadFaultsModel", "exceptions", "I", false)
  | 14 => ("LeadFaultsModel", "exceptKind", "[I", true)
  | 15 => ("LeadFaultsModel", "exceptTime", "[I", true)
  | 16 => ("LeadFaultsModel", "moments", "I", false)
  | 17 => ("LeadFaultsModel", "moment", "[I", true)
  | 18 => ("LeadFaultsModel", "event", "[I", true)
  | 19 => ("LeadFaultsModel", "faults", "I", false)
  | 20 => ("LeadFaultsModel", "excepted", "I", false)
  | 21 => ("LeadFaultsModel", "fault", "[I", true)
  | _ => ("LeadFaultsModel", "faultTime", "[I", true)
def tyX7 : Nat → FieldType := fun k => match k with
  | 0 => .int
  | 1 => .array .int
  | 2 => .array .int
  | 3 => .array .int
  | 4 => .array .int
  | 5 => .array .int
  | 6 => .array .int
  | 7 => .array .boolean
  | 8 => .int
  | 9 => .int
  | 10 => .int
  | 11 => .array .int
  | 12 => .array .int
  | 13 => .int
  | 14 => .array .int
  | 15 => .array .int
  | 16 => .int
  | 17 => .array .int
  | 18 => .array .int
  | 19 => .int
  | 20 => .int
  | 21 => .array .int
  | _ => .array .int
abbrev cX6_init : ByteArray := prog_1_method_1_code
def yX6_init : MethodName := ⟨RX6, "<init>", "(I)V"⟩
abbrev cX4_init : ByteArray := prog_6_method_1_code
def yX4_init : MethodName := ⟨RX4, "<init>", "()V"⟩
abbrev cX5_init : ByteArray := prog_7_method_1_code
def yX5_init : MethodName := ⟨RX5, "<init>", "()V"⟩
abbrev cX1_init : ByteArray := prog_3_method_1_code
def yX1_init : MethodName := ⟨RX1, "<init>", "(I)V"⟩
abbrev cX3_init : ByteArray := prog_5_method_1_code
def yX3_init : MethodName := ⟨RX3, "<init>", "()V"⟩
abbrev cX2_init : ByteArray := prog_4_method_1_code
def yX2_init : MethodName := ⟨RX2, "<init>", "()V"⟩
abbrev cX0_init : ByteArray := prog_2_method_1_code
def yX0_init : MethodName := ⟨RX0, "<init>", "()V"⟩
abbrev cX6_clear : ByteArray := prog_1_method_2_code
def yX6_clear : MethodName := ⟨RX6, "clear", "()I"⟩
abbrev cX4_reset : ByteArray := prog_6_method_2_code
def yX4_reset : MethodName := ⟨RX4, "reset", "()V"⟩
abbrev cX2_reset : ByteArray := prog_4_method_2_code
def yX2_reset : MethodName := ⟨RX2, "reset", "()V"⟩
abbrev cJ7_fill : ByteArray := prog_13_method_103_code
def yJ7_fill : MethodName := ⟨RJ7, "fill", "([II)V"⟩
abbrev cX5_gather : ByteArray := prog_7_method_2_code
def yX5_gather : MethodName := ⟨RX5, "gather", "([LLeadFaults$Part;I)V"⟩
abbrev cX5_gatherGrid : ByteArray := prog_7_method_3_code
def yX5_gatherGrid : MethodName := ⟨RX5, "gatherGrid", "([LLeadFaults$Part;I)V"⟩
abbrev cX4_lastTime : ByteArray := prog_6_method_5_code
def yX4_lastTime : MethodName := ⟨RX4, "lastTime", "()I"⟩
abbrev cX5_gatherEvents : ByteArray := prog_7_method_4_code
def yX5_gatherEvents : MethodName := ⟨RX5, "gatherEvents", "([LLeadFaults$Part;)V"⟩
abbrev cX5_earliestHead : ByteArray := prog_7_method_5_code
def yX5_earliestHead : MethodName := ⟨RX5, "earliestHead", "([LLeadFaults$Part;)I"⟩
abbrev cX5_passHeads : ByteArray := prog_7_method_6_code
def yX5_passHeads : MethodName := ⟨RX5, "passHeads", "([LLeadFaults$Part;I)V"⟩
abbrev cX6_note : ByteArray := prog_1_method_3_code
def yX6_note : MethodName := ⟨RX6, "note", "(IIII)I"⟩
abbrev cX6_isVoice : ByteArray := prog_1_method_22_code
def yX6_isVoice : MethodName := ⟨RX6, "isVoice", "(I)Z"⟩
abbrev cX6_within : ByteArray := prog_1_method_26_code
def yX6_within : MethodName := ⟨RX6, "within", "(III)Z"⟩
abbrev cX6_isTime : ByteArray := prog_1_method_24_code
def yX6_isTime : MethodName := ⟨RX6, "isTime", "(I)Z"⟩
abbrev cX6_append : ByteArray := prog_1_method_21_code
def yX6_append : MethodName := ⟨RX6, "append", "(IIII)I"⟩
abbrev cX4_append : ByteArray := prog_6_method_3_code
def yX4_append : MethodName := ⟨RX4, "append", "(III)I"⟩
abbrev cX6_rest : ByteArray := prog_1_method_4_code
def yX6_rest : MethodName := ⟨RX6, "rest", "(II)I"⟩
abbrev cX6_take : ByteArray := prog_1_method_5_code
def yX6_take : MethodName := ⟨RX6, "take", "(I)I"⟩
abbrev cX4_dropLast : ByteArray := prog_6_method_4_code
def yX4_dropLast : MethodName := ⟨RX4, "dropLast", "()I"⟩
abbrev cX6_rule : ByteArray := prog_1_method_6_code
def yX6_rule : MethodName := ⟨RX6, "rule", "(II)I"⟩
abbrev cX6_isKind : ByteArray := prog_1_method_25_code
def yX6_isKind : MethodName := ⟨RX6, "isKind", "(I)Z"⟩
abbrev cX6_style : ByteArray := prog_1_method_7_code
def yX6_style : MethodName := ⟨RX6, "style", "(I)I"⟩
abbrev cJ6_bitCount : ByteArray := prog_10_method_49_code
def yJ6_bitCount : MethodName := ⟨RJ6, "bitCount", "(I)I"⟩
abbrev cX6_key : ByteArray := prog_1_method_8_code
def yX6_key : MethodName := ⟨RX6, "key", "(I)I"⟩
abbrev cX6_range : ByteArray := prog_1_method_9_code
def yX6_range : MethodName := ⟨RX6, "range", "(III)I"⟩
abbrev cX4_notesOutside : ByteArray := prog_6_method_9_code
def yX4_notesOutside : MethodName := ⟨RX4, "notesOutside", "()I"⟩
abbrev cX4_isNote : ByteArray := prog_6_method_6_code
def yX4_isNote : MethodName := ⟨RX4, "isNote", "(I)Z"⟩
abbrev cX4_heightOf : ByteArray := prog_6_method_7_code
def yX4_heightOf : MethodName := ⟨RX4, "heightOf", "(I)I"⟩
abbrev cX4_isOutside : ByteArray := prog_6_method_8_code
def yX4_isOutside : MethodName := ⟨RX4, "isOutside", "(I)Z"⟩
abbrev cX6_grid : ByteArray := prog_1_method_10_code
def yX6_grid : MethodName := ⟨RX6, "grid", "(I)I"⟩
abbrev cX6_repeat : ByteArray := prog_1_method_11_code
def yX6_repeat : MethodName := ⟨RX6, "repeat", "(II)I"⟩
abbrev cX1_append : ByteArray := prog_3_method_3_code
def yX1_append : MethodName := ⟨RX1, "append", "(II)I"⟩
abbrev cX6_except : ByteArray := prog_1_method_12_code
def yX6_except : MethodName := ⟨RX6, "except", "(II)I"⟩
abbrev cX1_holds : ByteArray := prog_3_method_2_code
def yX1_holds : MethodName := ⟨RX1, "holds", "(II)Z"⟩
abbrev cX6_judge : ByteArray := prog_1_method_13_code
def yX6_judge : MethodName := ⟨RX6, "judge", "()I"⟩
abbrev cX3_begin : ByteArray := prog_5_method_2_code
def yX3_begin : MethodName := ⟨RX3, "begin", "(II)V"⟩
abbrev cJ9_floorMod : ByteArray := prog_11_method_50_code
def yJ9_floorMod : MethodName := ⟨RJ9, "floorMod", "(II)I"⟩
abbrev cX3_sharpnessInKey : ByteArray := prog_5_method_3_code
def yX3_sharpnessInKey : MethodName := ⟨RX3, "sharpnessInKey", "(II)I"⟩
abbrev cX3_walk : ByteArray := prog_5_method_4_code
def yX3_walk : MethodName := ⟨RX3, "walk", "([LLeadFaults$Part;LLeadFaults$Timeline;)V"⟩
abbrev cX2_begin : ByteArray := prog_4_method_3_code
def yX2_begin : MethodName := ⟨RX2, "begin", "(LLeadFaults$Timeline;)V"⟩
abbrev cX0_hush : ByteArray := prog_2_method_2_code
def yX0_hush : MethodName := ⟨RX0, "hush", "()V"⟩
abbrev cX0_load : ByteArray := prog_2_method_3_code
def yX0_load : MethodName := ⟨RX0, "load", "([LLeadFaults$Part;I)V"⟩
abbrev cX4_lastNotLater : ByteArray := prog_6_method_10_code
def yX4_lastNotLater : MethodName := ⟨RX4, "lastNotLater", "(I)I"⟩
abbrev cX3_lookAtMoment : ByteArray := prog_5_method_6_code
def yX3_lookAtMoment : MethodName := ⟨RX3, "lookAtMoment", "([LLeadFaults$Part;)V"⟩
abbrev cX3_goes : ByteArray := prog_5_method_14_code
def yX3_goes : MethodName := ⟨RX3, "goes", "(I)Z"⟩
abbrev cX3_moves : ByteArray := prog_5_method_15_code
def yX3_moves : MethodName := ⟨RX3, "moves", "(I)Z"⟩
abbrev cX3_alone : ByteArray := prog_5_method_17_code
def yX3_alone : MethodName := ⟨RX3, "alone", "(IIZ)V"⟩
abbrev cX3_between : ByteArray := prog_5_method_18_code
def yX3_between : MethodName := ⟨RX3, "between", "(IIIZ)V"⟩
abbrev cX2_mark : ByteArray := prog_4_method_4_code
def yX2_mark : MethodName := ⟨RX2, "mark", "(IIII)V"⟩
abbrev cX3_lookAtInterval : ByteArray := prog_5_method_7_code
def yX3_lookAtInterval : MethodName := ⟨RX3, "lookAtInterval", "(II)V"⟩
abbrev cX0_heightUp : ByteArray := prog_2_method_7_code
def yX0_heightUp : MethodName := ⟨RX0, "heightUp", "(II)I"⟩
abbrev cX3_leads : ByteArray := prog_5_method_13_code
def yX3_leads : MethodName := ⟨RX3, "leads", "(LLeadFaults$Chord;I)Z"⟩
abbrev cX0_isNoteOf : ByteArray := prog_2_method_5_code
def yX0_isNoteOf : MethodName := ⟨RX0, "isNoteOf", "(III)Z"⟩
abbrev cX0_letter : ByteArray := prog_2_method_4_code
def yX0_letter : MethodName := ⟨RX0, "letter", "(I)I"⟩
abbrev cX3_lookAtPair : ByteArray := prog_5_method_8_code
def yX3_lookAtPair : MethodName := ⟨RX3, "lookAtPair", "()V"⟩
abbrev cX3_lookAtMove : ByteArray := prog_5_method_9_code
def yX3_lookAtMove : MethodName := ⟨RX3, "lookAtMove", "(I)V"⟩
abbrev cX3_isLeap : ByteArray := prog_5_method_10_code
def yX3_isLeap : MethodName := ⟨RX3, "isLeap", "(II)Z"⟩
abbrev cX0_stepsUp : ByteArray := prog_2_method_6_code
def yX0_stepsUp : MethodName := ⟨RX0, "stepsUp", "(II)I"⟩
abbrev cX3_lookAtTwo : ByteArray := prog_5_method_11_code
def yX3_lookAtTwo : MethodName := ⟨RX3, "lookAtTwo", "(II)V"⟩
abbrev cX3_way : ByteArray := prog_5_method_16_code
def yX3_way : MethodName := ⟨RX3, "way", "(I)I"⟩
abbrev cJ6_compare : ByteArray := prog_10_method_40_code
def yJ6_compare : MethodName := ⟨RJ6, "compare", "(II)I"⟩
abbrev cX0_quality : ByteArray := prog_2_method_8_code
def yX0_quality : MethodName := ⟨RX0, "quality", "(II)I"⟩
abbrev cX3_isCrossRelation : ByteArray := prog_5_method_12_code
def yX3_isCrossRelation : MethodName := ⟨RX3, "isCrossRelation", "(II)Z"⟩
abbrev cX3_goBack : ByteArray := prog_5_method_5_code
def yX3_goBack : MethodName := ⟨RX3, "goBack", "([LLeadFaults$Part;LLeadFaults$Timeline;II)V"⟩
abbrev cX5_firstFrom : ByteArray := prog_7_method_7_code
def yX5_firstFrom : MethodName := ⟨RX5, "firstFrom", "(I)I"⟩
abbrev cX5_lastBefore : ByteArray := prog_7_method_8_code
def yX5_lastBefore : MethodName := ⟨RX5, "lastBefore", "(I)I"⟩
abbrev cX2_leaveOut : ByteArray := prog_4_method_5_code
def yX2_leaveOut : MethodName := ⟨RX2, "leaveOut", "(II)V"⟩
abbrev cX2_sum : ByteArray := prog_4_method_6_code
def yX2_sum : MethodName := ⟨RX2, "sum", "()I"⟩
abbrev cX6_fault : ByteArray := prog_1_method_14_code
def yX6_fault : MethodName := ⟨RX6, "fault", "(II)I"⟩
abbrev cX2_tell : ByteArray := prog_4_method_7_code
def yX2_tell : MethodName := ⟨RX2, "tell", "(II)I"⟩
abbrev cX2_tellOfCell : ByteArray := prog_4_method_8_code
def yX2_tellOfCell : MethodName := ⟨RX2, "tellOfCell", "(III)I"⟩
abbrev cX2_bitAfter : ByteArray := prog_4_method_9_code
def yX2_bitAfter : MethodName := ⟨RX2, "bitAfter", "(II)I"⟩
abbrev cX6_count : ByteArray := prog_1_method_15_code
def yX6_count : MethodName := ⟨RX6, "count", "(I)I"⟩
abbrev cX6_moments : ByteArray := prog_1_method_16_code
def yX6_moments : MethodName := ⟨RX6, "moments", "()I"⟩
abbrev cX6_time : ByteArray := prog_1_method_17_code
def yX6_time : MethodName := ⟨RX6, "time", "(I)I"⟩
abbrev cX6_isMoment : ByteArray := prog_1_method_23_code
def yX6_isMoment : MethodName := ⟨RX6, "isMoment", "(I)Z"⟩
abbrev cX6_height : ByteArray := prog_1_method_18_code
def yX6_height : MethodName := ⟨RX6, "height", "(II)I"⟩
abbrev cX6_interval : ByteArray := prog_1_method_19_code
def yX6_interval : MethodName := ⟨RX6, "interval", "(III)I"⟩
abbrev cX6_event : ByteArray := prog_1_method_20_code
def yX6_event : MethodName := ⟨RX6, "event", "(III)I"⟩
abbrev cL_cell : ByteArray := method_2_code
def yL_cell : MethodName := ⟨RL, "cell", "([II)I"⟩
abbrev cX7_init : ByteArray := prog_9_method_1_code
def yX7_init : MethodName := ⟨RX7, "<init>", "(I)V"⟩
abbrev cX7_begin : ByteArray := prog_9_method_2_code
def yX7_begin : MethodName := ⟨RX7, "begin", "()V"⟩
abbrev cX7_clear : ByteArray := prog_9_method_3_code
def yX7_clear : MethodName := ⟨RX7, "clear", "()I"⟩
abbrev cX7_note : ByteArray := prog_9_method_7_code
def yX7_note : MethodName := ⟨RX7, "note", "(IIII)I"⟩
abbrev cX7_isVoice : ByteArray := prog_9_method_5_code
def yX7_isVoice : MethodName := ⟨RX7, "isVoice", "(I)Z"⟩
abbrev cX7_isIn : ByteArray := prog_9_method_4_code
def yX7_isIn : MethodName := ⟨RX7, "isIn", "(III)Z"⟩
abbrev cX7_add : ByteArray := prog_9_method_6_code
def yX7_add : MethodName := ⟨RX7, "add", "(IIII)I"⟩
abbrev cX7_rest : ByteArray := prog_9_method_8_code
def yX7_rest : MethodName := ⟨RX7, "rest", "(II)I"⟩
abbrev cX7_take : ByteArray := prog_9_method_9_code
def yX7_take : MethodName := ⟨RX7, "take", "(I)I"⟩
abbrev cX7_rule : ByteArray := prog_9_method_10_code
def yX7_rule : MethodName := ⟨RX7, "rule", "(II)I"⟩
abbrev cX7_style : ByteArray := prog_9_method_11_code
def yX7_style : MethodName := ⟨RX7, "style", "(I)I"⟩
abbrev cX7_key : ByteArray := prog_9_method_12_code
def yX7_key : MethodName := ⟨RX7, "key", "(I)I"⟩
abbrev cX7_range : ByteArray := prog_9_method_15_code
def yX7_range : MethodName := ⟨RX7, "range", "(III)I"⟩
abbrev cX7_heightOf : ByteArray := prog_9_method_14_code
def yX7_heightOf : MethodName := ⟨RX7, "heightOf", "(I)I"⟩
abbrev cX7_scale : ByteArray := prog_9_method_13_code
def yX7_scale : MethodName := ⟨RX7, "scale", "(I)I"⟩
abbrev cX7_grid : ByteArray := prog_9_method_17_code
def yX7_grid : MethodName := ⟨RX7, "grid", "(I)I"⟩
abbrev cX7_learn : ByteArray := prog_9_method_16_code
def yX7_learn : MethodName := ⟨RX7, "learn", "()V"⟩
abbrev cX7_repeat : ByteArray := prog_9_method_18_code
def yX7_repeat : MethodName := ⟨RX7, "repeat", "(II)I"⟩
abbrev cX7_except : ByteArray := prog_9_method_20_code
def yX7_except : MethodName := ⟨RX7, "except", "(II)I"⟩
abbrev cX7_isExcepted : ByteArray := prog_9_method_19_code
def yX7_isExcepted : MethodName := ⟨RX7, "isExcepted", "(II)Z"⟩
abbrev cX7_judge : ByteArray := prog_9_method_38_code
def yX7_judge : MethodName := ⟨RX7, "judge", "()I"⟩
abbrev cX7_isAbout : ByteArray := prog_9_method_36_code
def yX7_isAbout : MethodName := ⟨RX7, "isAbout", "(III)Z"⟩
abbrev cX7_isBroken : ByteArray := prog_9_method_37_code
def yX7_isBroken : MethodName := ⟨RX7, "isBroken", "(IIII)Z"⟩
abbrev cX7_isOfMoments : ByteArray := prog_9_method_35_code
def yX7_isOfMoments : MethodName := ⟨RX7, "isOfMoments", "(I)Z"⟩
abbrev cX7_isBrokenAt : ByteArray := prog_9_method_34_code
def yX7_isBrokenAt : MethodName := ⟨RX7, "isBrokenAt", "(IIII)Z"⟩
abbrev cX7_at : ByteArray := prog_9_method_21_code
def yX7_at : MethodName := ⟨RX7, "at", "(II)I"⟩
abbrev cX7_betweenHeights : ByteArray := prog_9_method_23_code
def yX7_betweenHeights : MethodName := ⟨RX7, "betweenHeights", "(III)I"⟩
abbrev cX7_isLeading : ByteArray := prog_9_method_25_code
def yX7_isLeading : MethodName := ⟨RX7, "isLeading", "(I)Z"⟩
abbrev cX7_modulo : ByteArray := prog_9_method_22_code
def yX7_modulo : MethodName := ⟨RX7, "modulo", "(III)I"⟩
abbrev cX7_isPairBroken : ByteArray := prog_9_method_32_code
def yX7_isPairBroken : MethodName := ⟨RX7, "isPairBroken", "(IIIII)Z"⟩
abbrev cX7_goAlike : ByteArray := prog_9_method_29_code
def yX7_goAlike : MethodName := ⟨RX7, "goAlike", "(IIII)Z"⟩
abbrev cX7_way : ByteArray := prog_9_method_28_code
def yX7_way : MethodName := ⟨RX7, "way", "(III)I"⟩
abbrev cX7_moves : ByteArray := prog_9_method_27_code
def yX7_moves : MethodName := ⟨RX7, "moves", "(III)Z"⟩
abbrev cX7_goes : ByteArray := prog_9_method_26_code
def yX7_goes : MethodName := ⟨RX7, "goes", "(III)Z"⟩
abbrev cX7_which : ByteArray := prog_9_method_24_code
def yX7_which : MethodName := ⟨RX7, "which", "(III)I"⟩
abbrev cX7_isPure : ByteArray := prog_9_method_30_code
def yX7_isPure : MethodName := ⟨RX7, "isPure", "(I)Z"⟩
abbrev cX7_leaps : ByteArray := prog_9_method_31_code
def yX7_leaps : MethodName := ⟨RX7, "leaps", "(III)Z"⟩
abbrev cX7_crosses : ByteArray := prog_9_method_33_code
def yX7_crosses : MethodName := ⟨RX7, "crosses", "(IIII)Z"⟩
abbrev cX7_fault : ByteArray := prog_9_method_39_code
def yX7_fault : MethodName := ⟨RX7, "fault", "(II)I"⟩
abbrev cX7_count : ByteArray := prog_9_method_40_code
def yX7_count : MethodName := ⟨RX7, "count", "(I)I"⟩
abbrev cX7_moments : ByteArray := prog_9_method_41_code
def yX7_moments : MethodName := ⟨RX7, "moments", "()I"⟩
abbrev cX7_time : ByteArray := prog_9_method_42_code
def yX7_time : MethodName := ⟨RX7, "time", "(I)I"⟩
abbrev cX7_height : ByteArray := prog_9_method_43_code
def yX7_height : MethodName := ⟨RX7, "height", "(II)I"⟩
abbrev cX7_interval : ByteArray := prog_9_method_44_code
def yX7_interval : MethodName := ⟨RX7, "interval", "(III)I"⟩
abbrev cX7_event : ByteArray := prog_9_method_45_code
def yX7_event : MethodName := ⟨RX7, "event", "(III)I"⟩
def h_cl : List vw_C := [(RX0, TX0, 4), (RX1, TX1, 3), (RX2, TX2, 6), (RX3, TX3, 8), (RX4, TX4, 6), (RX5, TX5, 3), (RX6, TX6, 9), (RX7, TX7, 23)]
def h_ft : Nat → List Bool := fun k => match k with
  | 0 => [true, true, true, true]
  | 1 => [true, true, false]
  | 2 => [true, true, false, true, false, false]
  | 3 => [true, true, true, false, false, false, false, false]
  | 4 => [true, true, true, false, false, false]
  | 5 => [true, false, true]
  | 6 => [true, true, true, true, true, true, false, false, false]
  | 7 => [false, true, true, true, true, true, true, true, false, false, false, true, true, false, true, true, false, true, true, false, false, true, true]
  | _ => []
def h_tys (cA : Nat → ClassId) : List (ClassId × FieldType) := [(cA 1, .int), (cA 2, .boolean), (cA (4 + 53), .object RX4)]
def h_t0 : List Int32 := [16383, 4077, 781, 1, 0]
def h_q0 : String × String × Nat × List Int32 := ("LeadFaults", "STYLE_RULES", 0, h_t0)
def h_t1 : List Int32 := [0, 2, 4, 5, 7, 9, 11]
def h_q1 : String × String × Nat × List Int32 := ("LeadFaults", "LETTER_HEIGHTS", 1, h_t1)
def h_t2 : List Int32 := [3, 0, 4, 1, 5, 2, 6]
def h_q2 : String × String × Nat × List Int32 := ("LeadFaults", "SHARPENED_LETTERS", 2, h_t2)
def h_t3 : List Int32 := [6, 2, 5, 1, 4, 0, 3]
def h_q3 : String × String × Nat × List Int32 := ("LeadFaults", "FLATTENED_LETTERS", 3, h_t3)
def h_t4 : List Int32 := [0, 1, 3, 5, 7, 8, 10]
def h_q4 : String × String × Nat × List Int32 := ("LeadFaults", "LEAST_HEIGHT_OF_STEPS", 4, h_t4)
def h_t5 : List Int32 := [0, 2, 4, 5, 7, 9, 11]
def h_q5 : String × String × Nat × List Int32 := ("LeadFaults", "MOST_HEIGHT_OF_STEPS", 5, h_t5)
def h_t6 : List Int32 := [0, 3, 3, 0, 0, 0, 3, 0, 0, 0, 3, 3]
def h_q6 : String × String × Nat × List Int32 := ("LeadFaults", "QUALITY_BY_HEIGHT", 6, h_t6)
def h_st : List (String × String × Nat × List Int32) := [h_q0, h_q1, h_q2, h_q3, h_q4, h_q5, h_q6]
theorem h_s0 : h_q0 ∈ h_st := List.mem_of_getElem? (i := 0) rfl
theorem h_s1 : h_q1 ∈ h_st := List.mem_of_getElem? (i := 1) rfl
theorem h_s2 : h_q2 ∈ h_st := List.mem_of_getElem? (i := 2) rfl
theorem h_s3 : h_q3 ∈ h_st := List.mem_of_getElem? (i := 3) rfl
theorem h_s4 : h_q4 ∈ h_st := List.mem_of_getElem? (i := 4) rfl
theorem h_s5 : h_q5 ∈ h_st := List.mem_of_getElem? (i := 5) rfl
theorem h_s6 : h_q6 ∈ h_st := List.mem_of_getElem? (i := 6) rfl
/-- words that stay: by goodWord, or links to a nest mate, or the array class of our own objects -/
def hp_ok : Cond → Bool
  | .fieldLinkNest .. => true
  | .methodLinkNest .. => true
  | .arrayOver (.object _) => true
  | w => goodWord w
def h_tb : List Cond := lw_tbl.filter hp_ok
theorem nmX0 : ∀ a, a < 4 → ∀ b, b < 4 → a ≠ b → (TX0 a).2.1 ≠ (TX0 b).2.1 := by decide +kernel
theorem tyX0_ok : ∀ k, k < 4 → parseFieldDescriptor (TX0 k).2.2.1 = some (tyX0 k) := by decide +kernel
theorem m1_156 : u_lay RX0 TX0 0 ∈ h_tb := List.mem_filter.mpr ⟨List.mem_append_right _ (List.mem_append_left _ (List.mem_of_getElem? (i := 156) rfl)), rfl⟩
theorem m1_158 : u_lay RX0 TX0 1 ∈ h_tb := List.mem_filter.mpr ⟨List.mem_append_right _ (List.mem_append_left _ (List.mem_of_getElem? (i := 158) rfl)), rfl⟩
theorem m1_160 : u_lay RX0 TX0 2 ∈ h_tb := List.mem_filter.mpr ⟨List.mem_append_right _ (List.mem_append_left _ (List.mem_of_getElem? (i := 160) rfl)), rfl⟩
theorem m1_162 : u_lay RX0 TX0 3 ∈ h_tb := List.mem_filter.mpr ⟨List.mem_append_right _ (List.mem_append_left _ (List.mem_of_getElem? (i := 162) rfl)), rfl⟩
theorem inX0 : ∀ w ∈ u_ws RX0 TX0 4, w ∈ h_tb := List.forall_mem_cons.mpr ⟨m1_156, List.forall_mem_cons.mpr ⟨m1_158, List.forall_mem_cons.mpr ⟨m1_160, List.forall_mem_cons.mpr ⟨m1_162, fun _ h => absurd h List.not_mem_nil⟩⟩⟩⟩
theorem nmX1 : ∀ a, a < 3 → ∀ b, b < 3 → a ≠ b → (TX1 a).2.1 ≠ (TX1 b).2.1 := by decide +kernel
theorem tyX1_ok : ∀ k, k < 3 → parseFieldDescriptor (TX1 k).2.2.1 = some (tyX1 k) := by decide +kernel
theorem m1_99 : u_lay RX1 TX1 0 ∈ h_tb := List.mem_filter.mpr ⟨List.mem_append_right _ (List.mem_append_left _ (List.mem_of_getElem? (i := 99) rfl)), rfl⟩
theorem m1_101 : u_lay RX1 TX1 1 ∈ h_tb := List.mem_filter.mpr ⟨List.mem_append_right _ (List.mem_append_left _ (List.mem_of_getElem? (i := 101) rfl)), rfl⟩
theorem m1_103 : u_lay RX1 TX1 2 ∈ h_tb := List.mem_filter.mpr ⟨List.mem_append_right _ (List.mem_append_left _ (List.mem_of_getElem? (i := 103) rfl)), rfl⟩
theorem inX1 : ∀ w ∈ u_ws RX1 TX1 3, w ∈ h_tb := List.forall_mem_cons.mpr ⟨m1_99, List.forall_mem_cons.mpr ⟨m1_101, List.forall_mem_cons.mpr ⟨m1_103, fun _ h => absurd h List.not_mem_nil⟩⟩⟩
theorem nmX2 : ∀ a, a < 6 → ∀ b, b < 6 → a ≠ b → (TX2 a).2.1 ≠ (TX2 b).2.1 := by decide +kernel
theorem tyX2_ok : ∀ k, k < 6 → parseFieldDescriptor (TX2 k).2.2.1 = some (tyX2 k) := by decide +kernel
theorem m1_127 : u_lay RX2 TX2 0 ∈ h_tb := List.mem_filter.mpr ⟨List.mem_append_right _ (List.mem_append_left _ (List.mem_of_getElem? (i := 127) rfl)), rfl⟩
theorem m1_129 : u_lay RX2 TX2 1 ∈ h_tb := List.mem_filter.mpr ⟨List.mem_append_right _ (List.mem_append_left _ (List.mem_of_getElem? (i := 129) rfl)), rfl⟩
theorem m1_131 : u_lay RX2 TX2 2 ∈ h_tb := List.mem_filter.mpr ⟨List.mem_append_right _ (List.mem_append_left _ (List.mem_of_getElem? (i := 131) rfl)), rfl⟩
theorem m1_133 : u_lay RX2 TX2 3 ∈ h_tb := List.mem_filter.mpr ⟨List.mem_append_right _ (List.mem_append_left _ (List.mem_of_getElem? (i := 133) rfl)), rfl⟩
theorem m1_135 : u_lay RX2 TX2 4 ∈ h_tb := List.mem_filter.mpr ⟨List.mem_append_right _ (List.mem_append_left _ (List.mem_of_getElem? (i := 135) rfl)), rfl⟩
theorem m1_137 : u_lay RX2 TX2 5 ∈ h_tb := List.mem_filter.mpr ⟨List.mem_append_right _ (List.mem_append_left _ (List.mem_of_getElem? (i := 137) rfl)), rfl⟩
theorem inX2 : ∀ w ∈ u_ws RX2 TX2 6, w ∈ h_tb := List.forall_mem_cons.mpr ⟨m1_127, List.forall_mem_cons.mpr ⟨m1_129, List.forall_mem_cons.mpr ⟨m1_131, List.forall_mem_cons.mpr ⟨m1_133, List.forall_mem_cons.mpr ⟨m1_135, List.forall_mem_cons.mpr ⟨m1_137, fun _ h => absurd h List.not_mem_nil⟩⟩⟩⟩⟩⟩
theorem nmX3 : ∀ a, a < 8 → ∀ b, b < 8 → a ≠ b → (TX3 a).2.1 ≠ (TX3 b).2.1 := by decide +kernel
theorem tyX3_ok : ∀ k, k < 8 → parseFieldDescriptor (TX3 k).2.2.1 = some (tyX3 k) := by decide +kernel
theorem m1_175 : u_lay RX3 TX3 0 ∈ h_tb := List.mem_filter.mpr ⟨List.mem_append_right _ (List.mem_append_left _ (List.mem_of_getElem? (i := 175) rfl)), rfl⟩
theorem m1_177 : u_lay RX3 TX3 1 ∈ h_tb := List.mem_filter.mpr ⟨List.mem_append_right _ (List.mem_append_left _ (List.mem_of_getElem? (i := 177) rfl)), rfl⟩
theorem m1_179 : u_lay RX3 TX3 2 ∈ h_tb := List.mem_filter.mpr ⟨List.mem_append_right _ (List.mem_append_left _ (List.mem_of_getElem? (i := 179) rfl)), rfl⟩
theorem m1_181 : u_lay RX3 TX3 3 ∈ h_tb := List.mem_filter.mpr ⟨List.mem_append_right _ (List.mem_append_left _ (List.mem_of_getElem? (i := 181) rfl)), rfl⟩
theorem m1_183 : u_lay RX3 TX3 4 ∈ h_tb := List.mem_filter.mpr ⟨List.mem_append_right _ (List.mem_append_left _ (List.mem_of_getElem? (i := 183) rfl)), rfl⟩
theorem m1_185 : u_lay RX3 TX3 5 ∈ h_tb := List.mem_filter.mpr ⟨List.mem_append_right _ (List.mem_append_left _ (List.mem_of_getElem? (i := 185) rfl)), rfl⟩
theorem m1_187 : u_lay RX3 TX3 6 ∈ h_tb := List.mem_filter.mpr ⟨List.mem_append_right _ (List.mem_append_left _ (List.mem_of_getElem? (i := 187) rfl)), rfl⟩
theorem m1_189 : u_lay RX3 TX3 7 ∈ h_tb := List.mem_filter.mpr ⟨List.mem_append_right _ (List.mem_append_left _ (List.mem_of_getElem? (i := 189) rfl)), rfl⟩
theorem inX3 : ∀ w ∈ u_ws RX3 TX3 8, w ∈ h_tb := List.forall_mem_cons.mpr ⟨m1_175, List.forall_mem_cons.mpr ⟨m1_177, List.forall_mem_cons.mpr ⟨m1_179, List.forall_mem_cons.mpr ⟨m1_181, List.forall_mem_cons.mpr ⟨m1_183, List.forall_mem_cons.mpr ⟨m1_185, List.forall_mem_cons.mpr ⟨m1_187, List.forall_mem_cons.mpr ⟨m1_189, fun _ h => absurd h List.not_mem_nil⟩⟩⟩⟩⟩⟩⟩⟩
theorem nmX4 : ∀ a, a < 6 → ∀ b, b < 6 → a ≠ b → (TX4 a).2.1 ≠ (TX4 b).2.1 := by decide +kernel
theorem tyX4_ok : ∀ k, k < 6 → parseFieldDescriptor (TX4 k).2.2.1 = some (tyX4 k) := by decide +kernel
theorem m1_50 : u_lay RX4 TX4 0 ∈ h_tb := List.mem_filter.mpr ⟨List.mem_append_right _ (List.mem_append_left _ (List.mem_of_getElem? (i := 50) rfl)), rfl⟩
theorem m1_52 : u_lay RX4 TX4 1 ∈ h_tb := List.mem_filter.mpr ⟨List.mem_append_right _ (List.mem_append_left _ (List.mem_of_getElem? (i := 52) rfl)), rfl⟩
theorem m1_54 : u_lay RX4 TX4 2 ∈ h_tb := List.mem_filter.mpr ⟨List.mem_append_right _ (List.mem_append_left _ (List.mem_of_getElem? (i := 54) rfl)), rfl⟩
theorem m1_56 : u_lay RX4 TX4 3 ∈ h_tb := List.mem_filter.mpr ⟨List.mem_append_right _ (List.mem_append_left _ (List.mem_of_getElem? (i := 56) rfl)), rfl⟩
theorem m1_58 : u_lay RX4 TX4 4 ∈ h_tb := List.mem_filter.mpr ⟨List.mem_append_right _ (List.mem_append_left _ (List.mem_of_getElem? (i := 58) rfl)), rfl⟩
theorem m1_60 : u_lay RX4 TX4 5 ∈ h_tb := List.mem_filter.mpr ⟨List.mem_append_right _ (List.mem_append_left _ (List.mem_of_getElem? (i := 60) rfl)), rfl⟩
theorem inX4 : ∀ w ∈ u_ws RX4 TX4 6, w ∈ h_tb := List.forall_mem_cons.mpr ⟨m1_50, List.forall_mem_cons.mpr ⟨m1_52, List.forall_mem_cons.mpr ⟨m1_54, List.forall_mem_cons.mpr ⟨m1_56, List.forall_mem_cons.mpr ⟨m1_58, List.forall_mem_cons.mpr ⟨m1_60, fun _ h => absurd h List.not_mem_nil⟩⟩⟩⟩⟩⟩
theorem nmX5 : ∀ a, a < 3 → ∀ b, b < 3 → a ≠ b → (TX5 a).2.1 ≠ (TX5 b).2.1 := by decide +kernel
theorem tyX5_ok : ∀ k, k < 3 → parseFieldDescriptor (TX5 k).2.2.1 = some (tyX5 k) := by decide +kernel
theorem m1_79 : u_lay RX5 TX5 0 ∈ h_tb := List.mem_filter.mpr ⟨List.mem_append_right _ (List.mem_append_left _ (List.mem_of_getElem? (i := 79) rfl)), rfl⟩
theorem m1_81 : u_lay RX5 TX5 1 ∈ h_tb := List.mem_filter.mpr ⟨List.mem_append_right _ (List.mem_append_left _ (List.mem_of_getElem? (i := 81) rfl)), rfl⟩
theorem m1_83 : u_lay RX5 TX5 2 ∈ h_tb := List.mem_filter.mpr ⟨List.mem_append_right _ (List.mem_append_left _ (List.mem_of_getElem? (i := 83) rfl)), rfl⟩
theorem inX5 : ∀ w ∈ u_ws RX5 TX5 3, w ∈ h_tb := List.forall_mem_cons.mpr ⟨m1_79, List.forall_mem_cons.mpr ⟨m1_81, List.forall_mem_cons.mpr ⟨m1_83, fun _ h => absurd h List.not_mem_nil⟩⟩⟩
theorem nmX6 : ∀ a, a < 9 → ∀ b, b < 9 → a ≠ b → (TX6 a).2.1 ≠ (TX6 b).2.1 := by decide +kernel
theorem tyX6_ok : ∀ k, k < 9 → parseFieldDescriptor (TX6 k).2.2.1 = some (tyX6 k) := by decide +kernel
theorem m1_205 : u_lay RX6 TX6 0 ∈ h_tb := List.mem_filter.mpr ⟨List.mem_append_right _ (List.mem_append_left _ (List.mem_of_getElem? (i := 205) rfl)), rfl⟩
theorem m1_207 : u_lay RX6 TX6 1 ∈ h_tb := List.mem_filter.mpr ⟨List.mem_append_right _ (List.mem_append_left _ (List.mem_of_getElem? (i := 207) rfl)), rfl⟩
theorem m1_209 : u_lay RX6 TX6 2 ∈ h_tb := List.mem_filter.mpr ⟨List.mem_append_right _ (List.mem_append_left _ (List.mem_of_getElem? (i := 209) rfl)), rfl⟩
theorem m1_211 : u_lay RX6 TX6 3 ∈ h_tb := List.mem_filter.mpr ⟨List.mem_append_right _ (List.mem_append_left _ (List.mem_of_getElem? (i := 211) rfl)), rfl⟩
theorem m1_213 : u_lay RX6 TX6 4 ∈ h_tb := List.mem_filter.mpr ⟨List.mem_append_right _ (List.mem_append_left _ (List.mem_of_getElem? (i := 213) rfl)), rfl⟩
theorem m1_215 : u_lay RX6 TX6 5 ∈ h_tb := List.mem_filter.mpr ⟨List.mem_append_right _ (List.mem_append_left _ (List.mem_of_getElem? (i := 215) rfl)), rfl⟩
theorem m1_217 : u_lay RX6 TX6 6 ∈ h_tb := List.mem_filter.mpr ⟨List.mem_append_right _ (List.mem_append_left _ (List.mem_of_getElem? (i := 217) rfl)), rfl⟩
theorem m1_219 : u_lay RX6 TX6 7 ∈ h_tb := List.mem_filter.mpr ⟨List.mem_append_right _ (List.mem_append_left _ (List.mem_of_getElem? (i := 219) rfl)), rfl⟩
theorem m1_221 : u_lay RX6 TX6 8 ∈ h_tb := List.mem_filter.mpr ⟨List.mem_append_right _ (List.mem_append_left _ (List.mem_of_getElem? (i := 221) rfl)), rfl⟩
theorem inX6 : ∀ w ∈ u_ws RX6 TX6 9, w ∈ h_tb := List.forall_mem_cons.mpr ⟨m1_205, List.forall_mem_cons.mpr ⟨m1_207, List.forall_mem_cons.mpr ⟨m1_209, List.forall_mem_cons.mpr ⟨m1_211, List.forall_mem_cons.mpr ⟨m1_213, List.forall_mem_cons.mpr ⟨m1_215, List.forall_mem_cons.mpr ⟨m1_217, List.forall_mem_cons.mpr ⟨m1_219, List.forall_mem_cons.mpr ⟨m1_221, fun _ h => absurd h List.not_mem_nil⟩⟩⟩⟩⟩⟩⟩⟩⟩
theorem nmX7 : ∀ a, a < 23 → ∀ b, b < 23 → a ≠ b → (TX7 a).2.1 ≠ (TX7 b).2.1 := by decide +kernel
theorem tyX7_ok : ∀ k, k < 23 → parseFieldDescriptor (TX7 k).2.2.1 = some (tyX7 k) := by decide +kernel
theorem m3_123 : u_lay RX7 TX7 0 ∈ h_tb := List.mem_filter.mpr ⟨List.mem_append_right _ (List.mem_append_right _ (List.mem_append_right _ (List.mem_append_left _ (List.mem_of_getElem? (i := 123) rfl)))), rfl⟩
theorem m3_125 : u_lay RX7 TX7 1 ∈ h_tb := List.mem_filter.mpr ⟨List.mem_append_right _ (List.mem_append_right _ (List.mem_append_right _ (List.mem_append_left _ (List.mem_of_getElem? (i := 125) rfl)))), rfl⟩
theorem m3_127 : u_lay RX7 TX7 2 ∈ h_tb := List.mem_filter.mpr ⟨List.mem_append_right _ (List.mem_append_right _ (List.mem_append_right _ (List.mem_append_left _ (List.mem_of_getElem? (i := 127) rfl)))), rfl⟩
theorem m3_129 : u_lay RX7 TX7 3 ∈ h_tb := List.mem_filter.mpr ⟨List.mem_append_right _ (List.mem_append_right _ (List.mem_append_right _ (List.mem_append_left _ (List.mem_of_getElem? (i := 129) rfl)))), rfl⟩
theorem m3_131 : u_lay RX7 TX7 4 ∈ h_tb := List.mem_filter.mpr ⟨List.mem_append_right _ (List.mem_append_right _ (List.mem_append_right _ (List.mem_append_left _ (List.mem_of_getElem? (i := 131) rfl)))), rfl⟩
theorem m3_133 : u_lay RX7 TX7 5 ∈ h_tb := List.mem_filter.mpr ⟨List.mem_append_right _ (List.mem_append_right _ (List.mem_append_right _ (List.mem_append_left _ (List.mem_of_getElem? (i := 133) rfl)))), rfl⟩
theorem m3_135 : u_lay RX7 TX7 6 ∈ h_tb := List.mem_filter.mpr ⟨List.mem_append_right _ (List.mem_append_right _ (List.mem_append_right _ (List.mem_append_left _ (List.mem_of_getElem? (i := 135) rfl)))), rfl⟩
theorem m3_137 : u_lay RX7 TX7 7 ∈ h_tb := List.mem_filter.mpr ⟨List.mem_append_right _ (List.mem_append_right _ (List.mem_append_right _ (List.mem_append_left _ (List.mem_of_getElem? (i := 137) rfl)))), rfl⟩
theorem m3_139 : u_lay RX7 TX7 8 ∈ h_tb := List.mem_filter.mpr ⟨List.mem_append_right _ (List.mem_append_right _ (List.mem_append_right _ (List.mem_append_left _ (List.mem_of_getElem? (i := 139) rfl)))), rfl⟩
theorem m3_141 : u_lay RX7 TX7 9 ∈ h_tb := List.mem_filter.mpr ⟨List.mem_append_right _ (List.mem_append_right _ (List.mem_append_right _ (List.mem_append_left _ (List.mem_of_getElem? (i := 141) rfl)))), rfl⟩
theorem m3_143 : u_lay RX7 TX7 10 ∈ h_tb := List.mem_filter.mpr ⟨List.mem_append_right _ (List.mem_append_right _ (List.mem_append_right _ (List.mem_append_left _ (List.mem_of_getElem? (i := 143) rfl)))), rfl⟩
theorem m3_145 : u_lay RX7 TX7 11 ∈ h_tb := List.mem_filter.mpr ⟨List.mem_append_right _ (List.mem_append_right _ (List.mem_append_right _ (List.mem_append_left _ (List.mem_of_getElem? (i := 145) rfl)))), rfl⟩
theorem m3_147 : u_lay RX7 TX7 12 ∈ h_tb := List.mem_filter.mpr ⟨List.mem_append_right _ (List.mem_append_right _ (List.mem_append_right _ (List.mem_append_left _ (List.mem_of_getElem? (i := 147) rfl)))), rfl⟩
theorem m3_149 : u_lay RX7 TX7 13 ∈ h_tb := List.mem_filter.mpr ⟨List.mem_append_right _ (List.mem_append_right _ (List.mem_append_right _ (List.mem_append_left _ (List.mem_of_getElem? (i := 149) rfl)))), rfl⟩
theorem m3_151 : u_lay RX7 TX7 14 ∈ h_tb := List.mem_filter.mpr ⟨List.mem_append_right _ (List.mem_append_right _ (List.mem_append_right _ (List.mem_append_left _ (List.mem_of_getElem? (i := 151) rfl)))), rfl⟩
theorem m3_153 : u_lay RX7 TX7 15 ∈ h_tb := List.mem_filter.mpr ⟨List.mem_append_right _ (List.mem_append_right _ (List.mem_append_right _ (List.mem_append_left _ (List.mem_of_getElem? (i := 153) rfl)))), rfl⟩
theorem m3_155 : u_lay RX7 TX7 16 ∈ h_tb := List.mem_filter.mpr ⟨List.mem_append_right _ (List.mem_append_right _ (List.mem_append_right _ (List.mem_append_left _ (List.mem_of_getElem? (i := 155) rfl)))), rfl⟩
theorem m3_157 : u_lay RX7 TX7 17 ∈ h_tb := List.mem_filter.mpr ⟨List.mem_append_right _ (List.mem_append_right _ (List.mem_append_right _ (List.mem_append_left _ (List.mem_of_getElem? (i := 157) rfl)))), rfl⟩
theorem m3_159 : u_lay RX7 TX7 18 ∈ h_tb := List.mem_filter.mpr ⟨List.mem_append_right _ (List.mem_append_right _ (List.mem_append_right _ (List.mem_append_left _ (List.mem_of_getElem? (i := 159) rfl)))), rfl⟩
theorem m3_161 : u_lay RX7 TX7 19 ∈ h_tb := List.mem_filter.mpr ⟨List.mem_append_right _ (List.mem_append_right _ (List.mem_append_right _ (List.mem_append_left _ (List.mem_of_getElem? (i := 161) rfl)))), rfl⟩
theorem m3_163 : u_lay RX7 TX7 20 ∈ h_tb := List.mem_filter.mpr ⟨List.mem_append_right _ (List.mem_append_right _ (List.mem_append_right _ (List.mem_append_left _ (List.mem_of_getElem? (i := 163) rfl)))), rfl⟩
theorem m3_165 : u_lay RX7 TX7 21 ∈ h_tb := List.mem_filter.mpr ⟨List.mem_append_right _ (List.mem_append_right _ (List.mem_append_right _ (List.mem_append_left _ (List.mem_of_getElem? (i := 165) rfl)))), rfl⟩
theorem m3_167 : u_lay RX7 TX7 22 ∈ h_tb := List.mem_filter.mpr ⟨List.mem_append_right _ (List.mem_append_right _ (List.mem_append_right _ (List.mem_append_left _ (List.mem_of_getElem? (i := 167) rfl)))), rfl⟩
theorem inX7 : ∀ w ∈ u_ws RX7 TX7 23, w ∈ h_tb := List.forall_mem_cons.mpr ⟨m3_123, List.forall_mem_cons.mpr ⟨m3_125, List.forall_mem_cons.mpr ⟨m3_127, List.forall_mem_cons.mpr ⟨m3_129, List.forall_mem_cons.mpr ⟨m3_131, List.forall_mem_cons.mpr ⟨m3_133, List.forall_mem_cons.mpr ⟨m3_135, List.forall_mem_cons.mpr ⟨m3_137, List.forall_mem_cons.mpr ⟨m3_139, List.forall_mem_cons.mpr ⟨m3_141, List.forall_mem_cons.mpr ⟨m3_143, List.forall_mem_cons.mpr ⟨m3_145, List.forall_mem_cons.mpr ⟨m3_147, List.forall_mem_cons.mpr ⟨m3_149, List.forall_mem_cons.mpr ⟨m3_151, List.forall_mem_cons.mpr ⟨m3_153, List.forall_mem_cons.mpr ⟨m3_155, List.forall_mem_cons.mpr ⟨m3_157, List.forall_mem_cons.mpr ⟨m3_159, List.forall_mem_cons.mpr ⟨m3_161, List.forall_mem_cons.mpr ⟨m3_163, List.forall_mem_cons.mpr ⟨m3_165, List.forall_mem_cons.mpr ⟨m3_167, fun _ h => absurd h List.not_mem_nil⟩⟩⟩⟩⟩⟩⟩⟩⟩⟩⟩⟩⟩⟩⟩⟩⟩⟩⟩⟩⟩⟩⟩
