def R_GR : String := "GenericRegions"
def F_GR : u_T := fun k => match k with
  | 0 => ("GenericRegions", "width", "I", true)
  | 1 => ("GenericRegions", "height", "I", true)
  | 2 => ("GenericRegions", "template", "I", true)
  | 3 => ("GenericRegions", "ink", "LGenericRegions$Plane;", true)
  | 4 => ("GenericRegions", "skips", "LGenericRegions$Plane;", true)
  | 5 => ("GenericRegions", "places", "LGenericRegions$Places;", true)
  | 6 => ("GenericRegions", "ways", "LGenericRegions$Ways;", true)
  | 7 => ("GenericRegions", "tape", "LGenericRegions$Tape;", true)
  | 8 => ("GenericRegions", "teller", "LGenericRegions$Teller;", true)
  | 9 => ("GenericRegions", "inflow", "LGenericRegions$Inflow;", true)
  | 10 => ("GenericRegions", "reader", "LGenericRegions$Reader;", true)
  | _ => ("GenericRegions", "passed", "I", false)
def t_GR : Nat → FieldType := fun k => match k with
  | 0 => .int
  | 1 => .int
  | 2 => .int
  | 3 => .object "GenericRegions$Plane"
  | 4 => .object "GenericRegions$Plane"
  | 5 => .object "GenericRegions$Places"
  | 6 => .object "GenericRegions$Ways"
  | 7 => .object "GenericRegions$Tape"
  | 8 => .object "GenericRegions$Teller"
  | 9 => .object "GenericRegions$Inflow"
  | 10 => .object "GenericRegions$Reader"
  | _ => .int
abbrev w_GR : List Cond := u_ws R_GR F_GR 12
def R_FaxLine : String := "GenericRegions$FaxLine"
def F_FaxLine : u_T := fun k => match k with
  | 0 => ("GenericRegions$FaxLine", "width", "I", true)
  | 1 => ("GenericRegions$FaxLine", "above", "I", false)
  | 2 => ("GenericRegions$FaxLine", "place", "I", false)
  | _ => ("GenericRegions$FaxLine", "black", "Z", false)
def t_FaxLine : Nat → FieldType := fun k => match k with
  | 0 => .int
  | 1 => .int
  | 2 => .int
  | _ => .boolean
abbrev w_FaxLine : List Cond := u_ws R_FaxLine F_FaxLine 4
def R_Inflow : String := "GenericRegions$Inflow"
def F_Inflow : u_T := fun k => match k with
  | 0 => ("GenericRegions$Inflow", "words", "[I", true)
  | 1 => ("GenericRegions$Inflow", "count", "I", false)
  | _ => ("GenericRegions$Inflow", "next", "I", false)
def t_Inflow : Nat → FieldType := fun k => match k with
  | 0 => .array .int
  | 1 => .int
  | _ => .int
abbrev w_Inflow : List Cond := u_ws R_Inflow F_Inflow 3
def R_Places : String := "GenericRegions$Places"
def F_Places : u_T := fun k => match k with
  | 0 => ("GenericRegions$Places", "template", "I", true)
  | 1 => ("GenericRegions$Places", "first", "[I", true)
  | 2 => ("GenericRegions$Places", "now", "[I", true)
  | _ => ("GenericRegions$Places", "loosePlaces", "[I", true)
def t_Places : Nat → FieldType := fun k => match k with
  | 0 => .int
  | 1 => .array .int
  | 2 => .array .int
  | _ => .array .int
abbrev w_Places : List Cond := u_ws R_Places F_Places 4
def R_Plane : String := "GenericRegions$Plane"
def F_Plane : u_T := fun k => match k with
  | 0 => ("GenericRegions$Plane", "width", "I", true)
  | _ => ("GenericRegions$Plane", "rows", "[I", true)
def t_Plane : Nat → FieldType := fun k => match k with
  | 0 => .int
  | _ => .array .int
abbrev w_Plane : List Cond := u_ws R_Plane F_Plane 2
def R_Reader : String := "GenericRegions$Reader"
def F_Reader : u_T := fun k => match k with
  | 0 => ("GenericRegions$Reader", "width", "I", true)
  | 1 => ("GenericRegions$Reader", "height", "I", true)
  | 2 => ("GenericRegions$Reader", "skips", "LGenericRegions$Plane;", true)
  | 3 => ("GenericRegions$Reader", "ways", "LGenericRegions$Ways;", true)
  | 4 => ("GenericRegions$Reader", "inflow", "LGenericRegions$Inflow;", true)
  | 5 => ("GenericRegions$Reader", "samples", "LGenericRegions$Plane;", true)
  | 6 => ("GenericRegions$Reader", "line", "LGenericRegions$FaxLine;", true)
  | 7 => ("GenericRegions$Reader", "bitsRead", "I", false)
  | 8 => ("GenericRegions$Reader", "rowsRead", "I", false)
  | 9 => ("GenericRegions$Reader", "copyBefore", "Z", false)
  | 10 => ("GenericRegions$Reader", "ended", "Z", false)
  | 11 => ("GenericRegions$Reader", "refusal", "I", false)
  | 12 => ("GenericRegions$Reader", "current", "I", false)
  | _ => ("GenericRegions$Reader", "currentIsCopy", "Z", false)
def t_Reader : Nat → FieldType := fun k => match k with
  | 0 => .int
  | 1 => .int
  | 2 => .object "GenericRegions$Plane"
  | 3 => .object "GenericRegions$Ways"
  | 4 => .object "GenericRegions$Inflow"
  | 5 => .object "GenericRegions$Plane"
  | 6 => .object "GenericRegions$FaxLine"
  | 7 => .int
  | 8 => .int
  | 9 => .boolean
  | 10 => .boolean
  | 11 => .int
  | 12 => .int
  | _ => .boolean
abbrev w_Reader : List Cond := u_ws R_Reader F_Reader 14
def R_Tape : String := "GenericRegions$Tape"
def F_Tape : u_T := fun k => match k with
  | 0 => ("GenericRegions$Tape", "entries", "[I", true)
  | _ => ("GenericRegions$Tape", "count", "I", false)
def t_Tape : Nat → FieldType := fun k => match k with
  | 0 => .array .int
  | _ => .int
abbrev w_Tape : List Cond := u_ws R_Tape F_Tape 2
def R_Teller : String := "GenericRegions$Teller"
def F_Teller : u_T := fun k => match k with
  | 0 => ("GenericRegions$Teller", "ink", "LGenericRegions$Plane;", true)
  | 1 => ("GenericRegions$Teller", "skips", "LGenericRegions$Plane;", true)
  | 2 => ("GenericRegions$Teller", "seen", "LGenericRegions$Plane;", true)
  | 3 => ("GenericRegions$Teller", "places", "LGenericRegions$Places;", true)
  | 4 => ("GenericRegions$Teller", "ways", "LGenericRegions$Ways;", true)
  | 5 => ("GenericRegions$Teller", "tape", "LGenericRegions$Tape;", true)
  | 6 => ("GenericRegions$Teller", "line", "LGenericRegions$FaxLine;", true)
  | _ => ("GenericRegions$Teller", "copyCount", "I", false)
def t_Teller : Nat → FieldType := fun k => match k with
  | 0 => .object "GenericRegions$Plane"
  | 1 => .object "GenericRegions$Plane"
  | 2 => .object "GenericRegions$Plane"
  | 3 => .object "GenericRegions$Places"
  | 4 => .object "GenericRegions$Ways"
  | 5 => .object "GenericRegions$Tape"
  | 6 => .object "GenericRegions$FaxLine"
  | _ => .int
abbrev w_Teller : List Cond := u_ws R_Teller F_Teller 8
def R_Ways : String := "GenericRegions$Ways"
def F_Ways : u_T := fun k => match k with
  | 0 => ("GenericRegions$Ways", "typical", "Z", false)
  | 1 => ("GenericRegions$Ways", "byFax", "Z", false)
  | _ => ("GenericRegions$Ways", "open", "Z", false)
def t_Ways : Nat → FieldType := fun k => match k with
  | 0 => .boolean
  | 1 => .boolean
  | _ => .boolean
abbrev w_Ways : List Cond := u_ws R_Ways F_Ways 3
def R_Md : String := "GenericRegionsModel"
def F_Md : u_T := fun k => match k with
  | 0 => ("GenericRegionsModel", "fine", "[I", true)
  | 1 => ("GenericRegionsModel", "middle", "[I", true)
  | 2 => ("GenericRegionsModel", "coarse", "[I", true)
  | 3 => ("GenericRegionsModel", "flat", "[I", true)
  | 4 => ("GenericRegionsModel", "looseOnes", "[I", true)
  | 5 => ("GenericRegionsModel", "code", "I", false)
  | 6 => ("GenericRegionsModel", "width", "I", true)
  | 7 => ("GenericRegionsModel", "height", "I", true)
  | 8 => ("GenericRegionsModel", "template", "I", true)
  | 9 => ("GenericRegionsModel", "placeMany", "I", false)
  | 10 => ("GenericRegionsModel", "places", "[I", true)
  | 11 => ("GenericRegionsModel", "black", "[Z", true)
  | 12 => ("GenericRegionsModel", "skipped", "[Z", true)
  | 13 => ("GenericRegionsModel", "isTypical", "Z", false)
  | 14 => ("GenericRegionsModel", "isFax", "Z", false)
  | 15 => ("GenericRegionsModel", "isOpen", "Z", false)
  | 16 => ("GenericRegionsModel", "toldMany", "I", false)
  | 17 => ("GenericRegionsModel", "passed", "I", false)
  | 18 => ("GenericRegionsModel", "copied", "I", false)
  | 19 => ("GenericRegionsModel", "known", "[Z", true)
  | 20 => ("GenericRegionsModel", "bits", "[I", true)
  | 21 => ("GenericRegionsModel", "contexts", "[I", true)
  | 22 => ("GenericRegionsModel", "rowsOf", "[I", true)
  | 23 => ("GenericRegionsModel", "cameMany", "I", false)
  | 24 => ("GenericRegionsModel", "came", "[I", true)
  | 25 => ("GenericRegionsModel", "found", "[Z", true)
  | 26 => ("GenericRegionsModel", "readBits", "I", false)
  | 27 => ("GenericRegionsModel", "rowsRead", "I", false)
  | 28 => ("GenericRegionsModel", "isDone", "Z", false)
  | 29 => ("GenericRegionsModel", "refused", "I", false)
  | 30 => ("GenericRegionsModel", "at", "I", false)
  | 31 => ("GenericRegionsModel", "lacks", "Z", false)
  | 32 => ("GenericRegionsModel", "why", "I", false)
  | 33 => ("GenericRegionsModel", "wasCopy", "Z", false)
  | 34 => ("GenericRegionsModel", "place", "I", false)
  | _ => ("GenericRegionsModel", "colour", "Z", false)
def t_Md : Nat → FieldType := fun k => match k with
  | 0 => .array .int
  | 1 => .array .int
  | 2 => .array .int
  | 3 => .array .int
  | 4 => .array .int
  | 5 => .int
  | 6 => .int
  | 7 => .int
  | 8 => .int
  | 9 => .int
  | 10 => .array .int
  | 11 => .array .boolean
  | 12 => .array .boolean
  | 13 => .boolean
  | 14 => .boolean
  | 15 => .boolean
  | 16 => .int
  | 17 => .int
  | 18 => .int
  | 19 => .array .boolean
  | 20 => .array .int
  | 21 => .array .int
  | 22 => .array .int
  | 23 => .int
  | 24 => .array .int
  | 25 => .array .boolean
  | 26 => .int
  | 27 => .int
  | 28 => .boolean
  | 29 => .int
  | 30 => .int
  | 31 => .boolean
  | 32 => .int
  | 33 => .boolean
  | 34 => .int
  | _ => .boolean
abbrev w_Md : List Cond := u_ws R_Md F_Md 36
def R_JInt : String := "java/lang/Integer"
abbrev classes : List vw_C := [(R_GR, F_GR, 12), (R_FaxLine, F_FaxLine, 4), (R_Inflow, F_Inflow, 3), (R_Places, F_Places, 4), (R_Plane, F_Plane, 2), (R_Reader, F_Reader, 14), (R_Tape, F_Tape, 2), (R_Teller, F_Teller, 8), (R_Ways, F_Ways, 3), (R_Md, F_Md, 36)]
abbrev b_FaxLine_init : ByteArray := prog_2_method_1_code
def y_FaxLine_init : MethodName := ⟨R_FaxLine, "<init>", "(I)V"⟩
abbrev b_FaxLine_start : ByteArray := prog_2_method_2_code
def y_FaxLine_start : MethodName := ⟨R_FaxLine, "start", "(I)V"⟩
abbrev b_FaxLine_hasEnded : ByteArray := prog_2_method_3_code
def y_FaxLine_hasEnded : MethodName := ⟨R_FaxLine, "hasEnded", "()Z"⟩
abbrev b_FaxLine_place : ByteArray := prog_2_method_4_code
def y_FaxLine_place : MethodName := ⟨R_FaxLine, "place", "()I"⟩
abbrev b_FaxLine_black : ByteArray := prog_2_method_5_code
def y_FaxLine_black : MethodName := ⟨R_FaxLine, "black", "()Z"⟩
abbrev b_FaxLine_goTo : ByteArray := prog_2_method_6_code
def y_FaxLine_goTo : MethodName := ⟨R_FaxLine, "goTo", "(I)V"⟩
abbrev b_FaxLine_turnAt : ByteArray := prog_2_method_7_code
def y_FaxLine_turnAt : MethodName := ⟨R_FaxLine, "turnAt", "(I)V"⟩
abbrev b_FaxLine_isBlack : ByteArray := prog_2_method_11_code
def y_FaxLine_isBlack : MethodName := ⟨R_FaxLine, "isBlack", "(II)Z"⟩
abbrev b_FaxLine_firstRightOf : ByteArray := prog_2_method_8_code
def y_FaxLine_firstRightOf : MethodName := ⟨R_FaxLine, "firstRightOf", "(IIZ)I"⟩
abbrev b_FaxLine_b1 : ByteArray := prog_2_method_9_code
def y_FaxLine_b1 : MethodName := ⟨R_FaxLine, "b1", "()I"⟩
abbrev b_FaxLine_b2 : ByteArray := prog_2_method_10_code
def y_FaxLine_b2 : MethodName := ⟨R_FaxLine, "b2", "(I)I"⟩
abbrev b_Inflow_init : ByteArray := prog_3_method_1_code
def y_Inflow_init : MethodName := ⟨R_Inflow, "<init>", "()V"⟩
abbrev b_Inflow_count : ByteArray := prog_3_method_2_code
def y_Inflow_count : MethodName := ⟨R_Inflow, "count", "()I"⟩
abbrev b_Inflow_wipe : ByteArray := prog_3_method_3_code
def y_Inflow_wipe : MethodName := ⟨R_Inflow, "wipe", "()V"⟩
abbrev b_Inflow_hasRoomFor : ByteArray := prog_3_method_4_code
def y_Inflow_hasRoomFor : MethodName := ⟨R_Inflow, "hasRoomFor", "(I)Z"⟩
abbrev b_Inflow_add : ByteArray := prog_3_method_5_code
def y_Inflow_add : MethodName := ⟨R_Inflow, "add", "(I)V"⟩
abbrev b_Inflow_goTo : ByteArray := prog_3_method_6_code
def y_Inflow_goTo : MethodName := ⟨R_Inflow, "goTo", "(I)V"⟩
abbrev b_Inflow_place : ByteArray := prog_3_method_7_code
def y_Inflow_place : MethodName := ⟨R_Inflow, "place", "()I"⟩
abbrev b_Inflow_take : ByteArray := prog_3_method_8_code
def y_Inflow_take : MethodName := ⟨R_Inflow, "take", "()I"⟩
abbrev b_Places_firstOf : ByteArray := prog_4_method_2_code
def y_Places_firstOf : MethodName := ⟨R_Places, "firstOf", "(I)[I"⟩
abbrev b_Places_looseOf : ByteArray := prog_4_method_3_code
def y_Places_looseOf : MethodName := ⟨R_Places, "looseOf", "(I)[I"⟩
abbrev b_Places_init : ByteArray := prog_4_method_1_code
def y_Places_init : MethodName := ⟨R_Places, "<init>", "(I)V"⟩
abbrev b_Places_typicalContext : ByteArray := prog_4_method_4_code
def y_Places_typicalContext : MethodName := ⟨R_Places, "typicalContext", "()I"⟩
abbrev b_Places_looseCount : ByteArray := prog_4_method_5_code
def y_Places_looseCount : MethodName := ⟨R_Places, "looseCount", "()I"⟩
abbrev b_Places_move : ByteArray := prog_4_method_6_code
def y_Places_move : MethodName := ⟨R_Places, "move", "(III)Z"⟩
abbrev b_Places_reset : ByteArray := prog_4_method_7_code
def y_Places_reset : MethodName := ⟨R_Places, "reset", "()V"⟩
abbrev b_Plane_mask : ByteArray := prog_5_method_4_code
def y_Plane_mask : MethodName := ⟨R_Plane, "mask", "(I)I"⟩
abbrev b_Plane_has : ByteArray := prog_5_method_6_code
def y_Plane_has : MethodName := ⟨R_Plane, "has", "(II)Z"⟩
abbrev b_Places_contextIn : ByteArray := prog_4_method_8_code
def y_Places_contextIn : MethodName := ⟨R_Places, "contextIn", "(LGenericRegions$Plane;II)I"⟩
abbrev b_Plane_init : ByteArray := prog_5_method_1_code
def y_Plane_init : MethodName := ⟨R_Plane, "<init>", "(II)V"⟩
abbrev b_Plane_width : ByteArray := prog_5_method_2_code
def y_Plane_width : MethodName := ⟨R_Plane, "width", "()I"⟩
abbrev b_Plane_height : ByteArray := prog_5_method_3_code
def y_Plane_height : MethodName := ⟨R_Plane, "height", "()I"⟩
abbrev b_Plane_setMask : ByteArray := prog_5_method_5_code
def y_Plane_setMask : MethodName := ⟨R_Plane, "setMask", "(II)V"⟩
abbrev b_Plane_change : ByteArray := prog_5_method_7_code
def y_Plane_change : MethodName := ⟨R_Plane, "change", "(IIZ)Z"⟩
abbrev b_Plane_wipe : ByteArray := prog_5_method_8_code
def y_Plane_wipe : MethodName := ⟨R_Plane, "wipe", "()V"⟩
abbrev b_Reader_init : ByteArray := prog_6_method_1_code
def y_Reader_init : MethodName := ⟨R_Reader, "<init>", "(IILGenericRegions$Plane;LGenericRegions$Ways;LGenericRegions$Inflow;)V"⟩
abbrev b_Reader_restart : ByteArray := prog_6_method_2_code
def y_Reader_restart : MethodName := ⟨R_Reader, "restart", "()V"⟩
abbrev b_Reader_bitsRead : ByteArray := prog_6_method_3_code
def y_Reader_bitsRead : MethodName := ⟨R_Reader, "bitsRead", "()I"⟩
abbrev b_Reader_rowsRead : ByteArray := prog_6_method_4_code
def y_Reader_rowsRead : MethodName := ⟨R_Reader, "rowsRead", "()I"⟩
abbrev b_Reader_hasEnded : ByteArray := prog_6_method_5_code
def y_Reader_hasEnded : MethodName := ⟨R_Reader, "hasEnded", "()Z"⟩
abbrev b_Reader_isBlack : ByteArray := prog_6_method_6_code
def y_Reader_isBlack : MethodName := ⟨R_Reader, "isBlack", "(II)Z"⟩
abbrev b_Ways_open : ByteArray := prog_9_method_6_code
def y_Ways_open : MethodName := ⟨R_Ways, "open", "()Z"⟩
abbrev b_Reader_readOpening : ByteArray := prog_6_method_9_code
def y_Reader_readOpening : MethodName := ⟨R_Reader, "readOpening", "()Z"⟩
abbrev b_Reader_startRow : ByteArray := prog_6_method_8_code
def y_Reader_startRow : MethodName := ⟨R_Reader, "startRow", "()Z"⟩
abbrev b_Ways_byFax : ByteArray := prog_9_method_5_code
def y_Ways_byFax : MethodName := ⟨R_Ways, "byFax", "()Z"⟩
abbrev b_Reader_stepOf : ByteArray := prog_6_method_16_code
def y_Reader_stepOf : MethodName := ⟨R_Reader, "stepOf", "(II)I"⟩
abbrev b_Reader_nextStep : ByteArray := prog_6_method_15_code
def y_Reader_nextStep : MethodName := ⟨R_Reader, "nextStep", "()I"⟩
abbrev b_Reader_readNumber : ByteArray := prog_6_method_20_code
def y_Reader_readNumber : MethodName := ⟨R_Reader, "readNumber", "()I"⟩
abbrev b_Reader_paint : ByteArray := prog_6_method_21_code
def y_Reader_paint : MethodName := ⟨R_Reader, "paint", "(IIZ)V"⟩
abbrev b_Reader_readRuns : ByteArray := prog_6_method_19_code
def y_Reader_readRuns : MethodName := ⟨R_Reader, "readRuns", "()Z"⟩
abbrev b_Reader_passBelow : ByteArray := prog_6_method_17_code
def y_Reader_passBelow : MethodName := ⟨R_Reader, "passBelow", "(I)Z"⟩
abbrev b_Reader_turnNear : ByteArray := prog_6_method_18_code
def y_Reader_turnNear : MethodName := ⟨R_Reader, "turnNear", "(I)Z"⟩
abbrev b_Reader_readStep : ByteArray := prog_6_method_14_code
def y_Reader_readStep : MethodName := ⟨R_Reader, "readStep", "()Z"⟩
abbrev b_Reader_readByFax : ByteArray := prog_6_method_13_code
def y_Reader_readByFax : MethodName := ⟨R_Reader, "readByFax", "()Z"⟩
abbrev b_Ways_typical : ByteArray := prog_9_method_4_code
def y_Ways_typical : MethodName := ⟨R_Ways, "typical", "()Z"⟩
abbrev b_Reader_readSamples : ByteArray := prog_6_method_12_code
def y_Reader_readSamples : MethodName := ⟨R_Reader, "readSamples", "()Z"⟩
abbrev b_Reader_readBySamples : ByteArray := prog_6_method_11_code
def y_Reader_readBySamples : MethodName := ⟨R_Reader, "readBySamples", "()Z"⟩
abbrev b_Reader_keepRow : ByteArray := prog_6_method_10_code
def y_Reader_keepRow : MethodName := ⟨R_Reader, "keepRow", "()V"⟩
abbrev b_Reader_readOn : ByteArray := prog_6_method_7_code
def y_Reader_readOn : MethodName := ⟨R_Reader, "readOn", "()I"⟩
abbrev b_Tape_init : ByteArray := prog_7_method_1_code
def y_Tape_init : MethodName := ⟨R_Tape, "<init>", "(I)V"⟩
abbrev b_Tape_count : ByteArray := prog_7_method_2_code
def y_Tape_count : MethodName := ⟨R_Tape, "count", "()I"⟩
abbrev b_Tape_wipe : ByteArray := prog_7_method_3_code
def y_Tape_wipe : MethodName := ⟨R_Tape, "wipe", "()V"⟩
abbrev b_Tape_add : ByteArray := prog_7_method_4_code
def y_Tape_add : MethodName := ⟨R_Tape, "add", "(III)V"⟩
abbrev b_Tape_addByFax : ByteArray := prog_7_method_5_code
def y_Tape_addByFax : MethodName := ⟨R_Tape, "addByFax", "(III)V"⟩
abbrev b_Tape_entryAt : ByteArray := prog_7_method_9_code
def y_Tape_entryAt : MethodName := ⟨R_Tape, "entryAt", "(I)I"⟩
abbrev b_Tape_bitAt : ByteArray := prog_7_method_6_code
def y_Tape_bitAt : MethodName := ⟨R_Tape, "bitAt", "(I)I"⟩
abbrev b_Tape_contextAt : ByteArray := prog_7_method_7_code
def y_Tape_contextAt : MethodName := ⟨R_Tape, "contextAt", "(I)I"⟩
abbrev b_Tape_rowAt : ByteArray := prog_7_method_8_code
def y_Tape_rowAt : MethodName := ⟨R_Tape, "rowAt", "(I)I"⟩
abbrev b_Teller_init : ByteArray := prog_8_method_1_code
def y_Teller_init : MethodName := ⟨R_Teller, "<init>", "(LGenericRegions$Plane;LGenericRegions$Plane;LGenericRegions$Places;LGenericRegions$Ways;LGenericRegions$Tape;)V"⟩
abbrev b_Teller_copyCount : ByteArray := prog_8_method_2_code
def y_Teller_copyCount : MethodName := ⟨R_Teller, "copyCount", "()I"⟩
abbrev b_Teller_forget : ByteArray := prog_8_method_3_code
def y_Teller_forget : MethodName := ⟨R_Teller, "forget", "()V"⟩
abbrev b_Teller_look : ByteArray := prog_8_method_4_code
def y_Teller_look : MethodName := ⟨R_Teller, "look", "()V"⟩
abbrev b_Teller_contextOf : ByteArray := prog_8_method_5_code
def y_Teller_contextOf : MethodName := ⟨R_Teller, "contextOf", "(II)I"⟩
abbrev b_JInt_numberOfLeadingZeros : ByteArray := prog_16_method_47_code
def y_JInt_numberOfLeadingZeros : MethodName := ⟨R_JInt, "numberOfLeadingZeros", "(I)I"⟩
abbrev b_Teller_numberLength : ByteArray := prog_8_method_12_code
def y_Teller_numberLength : MethodName := ⟨R_Teller, "numberLength", "(I)I"⟩
abbrev b_Teller_tellRuns : ByteArray := prog_8_method_11_code
def y_Teller_tellRuns : MethodName := ⟨R_Teller, "tellRuns", "(II)V"⟩
abbrev b_Teller_tellStep : ByteArray := prog_8_method_10_code
def y_Teller_tellStep : MethodName := ⟨R_Teller, "tellStep", "(I)V"⟩
abbrev b_Teller_tellByFax : ByteArray := prog_8_method_9_code
def y_Teller_tellByFax : MethodName := ⟨R_Teller, "tellByFax", "(I)V"⟩
abbrev b_Teller_tellSamples : ByteArray := prog_8_method_8_code
def y_Teller_tellSamples : MethodName := ⟨R_Teller, "tellSamples", "(I)V"⟩
abbrev b_Teller_tellBySamples : ByteArray := prog_8_method_7_code
def y_Teller_tellBySamples : MethodName := ⟨R_Teller, "tellBySamples", "(IZ)Z"⟩
abbrev b_Teller_tellAll : ByteArray := prog_8_method_6_code
def y_Teller_tellAll : MethodName := ⟨R_Teller, "tellAll", "()V"⟩
abbrev b_Ways_init : ByteArray := prog_9_method_1_code
def y_Ways_init : MethodName := ⟨R_Ways, "<init>", "()V"⟩
abbrev b_Ways_change : ByteArray := prog_9_method_2_code
def y_Ways_change : MethodName := ⟨R_Ways, "change", "(IZ)Z"⟩
abbrev b_Ways_reset : ByteArray := prog_9_method_3_code
def y_Ways_reset : MethodName := ⟨R_Ways, "reset", "()V"⟩
abbrev b_GR_nearest : ByteArray := prog_1_method_19_code
def y_GR_nearest : MethodName := ⟨R_GR, "nearest", "(III)I"⟩
abbrev b_GR_mostTold : ByteArray := prog_1_method_20_code
def y_GR_mostTold : MethodName := ⟨R_GR, "mostTold", "(II)I"⟩
abbrev b_GR_init : ByteArray := prog_1_method_1_code
def y_GR_init : MethodName := ⟨R_GR, "<init>", "(III)V"⟩
abbrev b_GR_checkSample : ByteArray := prog_1_method_22_code
def y_GR_checkSample : MethodName := ⟨R_GR, "checkSample", "(II)V"⟩
abbrev b_GR_put : ByteArray := prog_1_method_2_code
def y_GR_put : MethodName := ⟨R_GR, "put", "(IIZ)Z"⟩
abbrev b_GR_checkRow : ByteArray := prog_1_method_23_code
def y_GR_checkRow : MethodName := ⟨R_GR, "checkRow", "(I)V"⟩
abbrev b_JInt_bitCount : ByteArray := prog_16_method_49_code
def y_JInt_bitCount : MethodName := ⟨R_JInt, "bitCount", "(I)I"⟩
abbrev b_GR_row : ByteArray := prog_1_method_3_code
def y_GR_row : MethodName := ⟨R_GR, "row", "(II)I"⟩
abbrev b_GR_at : ByteArray := prog_1_method_4_code
def y_GR_at : MethodName := ⟨R_GR, "at", "(II)Z"⟩
abbrev b_GR_skip : ByteArray := prog_1_method_5_code
def y_GR_skip : MethodName := ⟨R_GR, "skip", "(IIZ)Z"⟩
abbrev b_GR_mayBeAt : ByteArray := prog_1_method_21_code
def y_GR_mayBeAt : MethodName := ⟨R_GR, "mayBeAt", "(II)Z"⟩
abbrev b_GR_loose : ByteArray := prog_1_method_6_code
def y_GR_loose : MethodName := ⟨R_GR, "loose", "(III)Z"⟩
abbrev b_GR_way : ByteArray := prog_1_method_7_code
def y_GR_way : MethodName := ⟨R_GR, "way", "(IZ)Z"⟩
abbrev b_GR_context : ByteArray := prog_1_method_8_code
def y_GR_context : MethodName := ⟨R_GR, "context", "(II)I"⟩
abbrev b_GR_tell : ByteArray := prog_1_method_9_code
def y_GR_tell : MethodName := ⟨R_GR, "tell", "()I"⟩
abbrev b_GR_bit : ByteArray := prog_1_method_10_code
def y_GR_bit : MethodName := ⟨R_GR, "bit", "(II)I"⟩
abbrev b_GR_copies : ByteArray := prog_1_method_11_code
def y_GR_copies : MethodName := ⟨R_GR, "copies", "()I"⟩
abbrev b_GR_checkRoom : ByteArray := prog_1_method_24_code
def y_GR_checkRoom : MethodName := ⟨R_GR, "checkRoom", "(I)V"⟩
abbrev b_GR_feed : ByteArray := prog_1_method_12_code
def y_GR_feed : MethodName := ⟨R_GR, "feed", "(I)I"⟩
abbrev b_GR_pass : ByteArray := prog_1_method_13_code
def y_GR_pass : MethodName := ⟨R_GR, "pass", "(I)I"⟩
abbrev b_GR_read : ByteArray := prog_1_method_14_code
def y_GR_read : MethodName := ⟨R_GR, "read", "()I"⟩
abbrev b_GR_got : ByteArray := prog_1_method_15_code
def y_GR_got : MethodName := ⟨R_GR, "got", "(II)Z"⟩
abbrev b_GR_begin : ByteArray := prog_1_method_16_code
def y_GR_begin : MethodName := ⟨R_GR, "begin", "()I"⟩
abbrev b_GR_told : ByteArray := prog_1_method_17_code
def y_GR_told : MethodName := ⟨R_GR, "told", "(I)I"⟩
abbrev b_GR_clear : ByteArray := prog_1_method_18_code
def y_GR_clear : MethodName := ⟨R_GR, "clear", "()V"⟩
abbrev b_Md_near : ByteArray := prog_11_method_2_code
def y_Md_near : MethodName := ⟨R_Md, "near", "(III)I"⟩
abbrev b_Md_layPlaces : ByteArray := prog_11_method_46_code
def y_Md_layPlaces : MethodName := ⟨R_Md, "layPlaces", "([II)V"⟩
abbrev b_Md_again : ByteArray := prog_11_method_6_code
def y_Md_again : MethodName := ⟨R_Md, "again", "()V"⟩
abbrev b_Md_begin : ByteArray := prog_11_method_44_code
def y_Md_begin : MethodName := ⟨R_Md, "begin", "()I"⟩
abbrev b_Md_clear : ByteArray := prog_11_method_47_code
def y_Md_clear : MethodName := ⟨R_Md, "clear", "()V"⟩
abbrev b_Md_init : ByteArray := prog_11_method_1_code
def y_Md_init : MethodName := ⟨R_Md, "<init>", "(III)V"⟩
abbrev b_Md_thrown : ByteArray := prog_11_method_3_code
def y_Md_thrown : MethodName := ⟨R_Md, "thrown", "()I"⟩
abbrev b_Md_in : ByteArray := prog_11_method_4_code
def y_Md_in : MethodName := ⟨R_Md, "in", "(III)Z"⟩
abbrev b_Md_isSample : ByteArray := prog_11_method_5_code
def y_Md_isSample : MethodName := ⟨R_Md, "isSample", "(II)Z"⟩
abbrev b_Md_put : ByteArray := prog_11_method_7_code
def y_Md_put : MethodName := ⟨R_Md, "put", "(IIZ)Z"⟩
abbrev b_Md_row : ByteArray := prog_11_method_8_code
def y_Md_row : MethodName := ⟨R_Md, "row", "(II)I"⟩
abbrev b_Md_at : ByteArray := prog_11_method_9_code
def y_Md_at : MethodName := ⟨R_Md, "at", "(II)Z"⟩
abbrev b_Md_skip : ByteArray := prog_11_method_10_code
def y_Md_skip : MethodName := ⟨R_Md, "skip", "(IIZ)Z"⟩
abbrev b_Md_looseMany : ByteArray := prog_11_method_11_code
def y_Md_looseMany : MethodName := ⟨R_Md, "looseMany", "()I"⟩
abbrev b_Md_looseAt : ByteArray := prog_11_method_12_code
def y_Md_looseAt : MethodName := ⟨R_Md, "looseAt", "(I)I"⟩
abbrev b_Md_loose : ByteArray := prog_11_method_13_code
def y_Md_loose : MethodName := ⟨R_Md, "loose", "(III)Z"⟩
abbrev b_Md_way : ByteArray := prog_11_method_14_code
def y_Md_way : MethodName := ⟨R_Md, "way", "(IZ)Z"⟩
abbrev b_Md_isBlack : ByteArray := prog_11_method_15_code
def y_Md_isBlack : MethodName := ⟨R_Md, "isBlack", "([ZII)Z"⟩
abbrev b_Md_contextOf : ByteArray := prog_11_method_16_code
def y_Md_contextOf : MethodName := ⟨R_Md, "contextOf", "([ZII)I"⟩
abbrev b_Md_layKnown : ByteArray := prog_11_method_17_code
def y_Md_layKnown : MethodName := ⟨R_Md, "layKnown", "()V"⟩
abbrev b_Md_context : ByteArray := prog_11_method_18_code
def y_Md_context : MethodName := ⟨R_Md, "context", "(II)I"⟩
abbrev b_Md_typicalContext : ByteArray := prog_11_method_19_code
def y_Md_typicalContext : MethodName := ⟨R_Md, "typicalContext", "()I"⟩
abbrev b_Md_tellBit : ByteArray := prog_11_method_20_code
def y_Md_tellBit : MethodName := ⟨R_Md, "tellBit", "(III)V"⟩
abbrev b_Md_tellContexts : ByteArray := prog_11_method_21_code
def y_Md_tellContexts : MethodName := ⟨R_Md, "tellContexts", "(I)V"⟩
abbrev b_Md_firstOf : ByteArray := prog_11_method_22_code
def y_Md_firstOf : MethodName := ⟨R_Md, "firstOf", "([ZIIZ)I"⟩
abbrev b_Md_changeOf : ByteArray := prog_11_method_23_code
def y_Md_changeOf : MethodName := ⟨R_Md, "changeOf", "([ZI)I"⟩
abbrev b_Md_putCode : ByteArray := prog_11_method_24_code
def y_Md_putCode : MethodName := ⟨R_Md, "putCode", "(III)V"⟩
abbrev b_Md_putNumber : ByteArray := prog_11_method_25_code
def y_Md_putNumber : MethodName := ⟨R_Md, "putNumber", "(II)V"⟩
abbrev b_Md_tellFax : ByteArray := prog_11_method_26_code
def y_Md_tellFax : MethodName := ⟨R_Md, "tellFax", "(I)V"⟩
abbrev b_Md_tell : ByteArray := prog_11_method_27_code
def y_Md_tell : MethodName := ⟨R_Md, "tell", "()I"⟩
abbrev b_Md_bit : ByteArray := prog_11_method_28_code
def y_Md_bit : MethodName := ⟨R_Md, "bit", "(II)I"⟩
abbrev b_Md_copies : ByteArray := prog_11_method_29_code
def y_Md_copies : MethodName := ⟨R_Md, "copies", "()I"⟩
abbrev b_Md_feed : ByteArray := prog_11_method_30_code
def y_Md_feed : MethodName := ⟨R_Md, "feed", "(I)I"⟩
abbrev b_Md_pass : ByteArray := prog_11_method_31_code
def y_Md_pass : MethodName := ⟨R_Md, "pass", "(I)I"⟩
abbrev b_Md_next : ByteArray := prog_11_method_32_code
def y_Md_next : MethodName := ⟨R_Md, "next", "()I"⟩
abbrev b_Md_refuse : ByteArray := prog_11_method_33_code
def y_Md_refuse : MethodName := ⟨R_Md, "refuse", "(ZI)V"⟩
abbrev b_Md_readContexts : ByteArray := prog_11_method_34_code
def y_Md_readContexts : MethodName := ⟨R_Md, "readContexts", "(I)V"⟩
abbrev b_Md_fill : ByteArray := prog_11_method_35_code
def y_Md_fill : MethodName := ⟨R_Md, "fill", "(IIIZ)V"⟩
abbrev b_Md_readNumber : ByteArray := prog_11_method_36_code
def y_Md_readNumber : MethodName := ⟨R_Md, "readNumber", "()I"⟩
abbrev b_Md_readChange : ByteArray := prog_11_method_37_code
def y_Md_readChange : MethodName := ⟨R_Md, "readChange", "(II)V"⟩
abbrev b_Md_readPassed : ByteArray := prog_11_method_38_code
def y_Md_readPassed : MethodName := ⟨R_Md, "readPassed", "(I)V"⟩
abbrev b_Md_readAcross : ByteArray := prog_11_method_39_code
def y_Md_readAcross : MethodName := ⟨R_Md, "readAcross", "(I)V"⟩
abbrev b_Md_readFax : ByteArray := prog_11_method_40_code
def y_Md_readFax : MethodName := ⟨R_Md, "readFax", "(I)V"⟩
abbrev b_Md_readOne : ByteArray := prog_11_method_41_code
def y_Md_readOne : MethodName := ⟨R_Md, "readOne", "()Z"⟩
abbrev b_Md_read : ByteArray := prog_11_method_42_code
def y_Md_read : MethodName := ⟨R_Md, "read", "()I"⟩
abbrev b_Md_got : ByteArray := prog_11_method_43_code
def y_Md_got : MethodName := ⟨R_Md, "got", "(II)Z"⟩
abbrev b_Md_told : ByteArray := prog_11_method_45_code
def y_Md_told : MethodName := ⟨R_Md, "told", "(I)I"⟩
def W_all : List Cond := lw_tbl.filter goodWord
theorem W_good : ∀ w ∈ W_all, (w.onTables && w.keeps) = true ∨ ∃ ty, w = .arrayClass ty := fun w h => good_of_word (List.mem_filter.mp h).2
theorem W_in {w : Cond} {i : Nat} (h : tables_1[i]? = some w) (hg : goodWord w = true) : w ∈ W_all := List.mem_filter.mpr ⟨List.mem_append_right _ (List.mem_of_getElem? h), hg⟩
theorem W_pr {y : MethodName} {n i : Nat} (h : lw_privs[i]? = some (y, n)) (hg : goodWord (Cond.selects y.cls y y) = true) : Cond.selects y.cls y y ∈ W_all := List.mem_filter.mpr ⟨List.mem_append_left _ (List.mem_map.mpr ⟨(y, n), List.mem_of_getElem? h, rfl⟩), hg⟩
theorem n_GR : ∀ a, a < 12 → ∀ b, b < 12 → a ≠ b → (F_GR a).2.1 ≠ (F_GR b).2.1 := by decide +kernel
theorem t_GR_ok : ∀ k, k < 12 → parseFieldDescriptor (F_GR k).2.2.1 = some (t_GR k) := by decide +kernel
theorem df_GR : ∀ j, j < 12 → defaultValue (t_GR j) = vp_V [.int 0, .int 0, .int 0, .null, .null, .null, .null, .null, .null, .null, .null, .int 0] j := fun j hj => match j, hj with
  | 0, _ => rfl
  | 1, _ => rfl
  | 2, _ => rfl
  | 3, _ => rfl
  | 4, _ => rfl
  | 5, _ => rfl
  | 6, _ => rfl
  | 7, _ => rfl
  | 8, _ => rfl
  | 9, _ => rfl
  | 10, _ => rfl
  | 11, _ => rfl
  | k + 12, h => by omega
theorem i_GR : ∀ w ∈ w_GR, w ∈ W_all := by
  intro w hw
  obtain ⟨k, hk, rfl⟩ := List.mem_map.mp hw
  have hk := List.mem_range.mp hk
  match k, hk with
  | 0, _ => exact W_in (w := .laysFinal R_GR R_GR "width" "I") (i := 273) (by decide +kernel) (by decide +kernel)
  | 1, _ => exact W_in (w := .laysFinal R_GR R_GR "height" "I") (i := 275) (by decide +kernel) (by decide +kernel)
  | 2, _ => exact W_in (w := .laysFinal R_GR R_GR "template" "I") (i := 277) (by decide +kernel) (by decide +kernel)
  | 3, _ => exact W_in (w := .laysFinal R_GR R_GR "ink" "LGenericRegions$Plane;") (i := 279) (by decide +kernel) (by decide +kernel)
  | 4, _ => exact W_in (w := .laysFinal R_GR R_GR "skips" "LGenericRegions$Plane;") (i := 281) (by decide +kernel) (by decide +kernel)
  | 5, _ => exact W_in (w := .laysFinal R_GR R_GR "places" "LGenericRegions$Places;") (i := 283) (by decide +kernel) (by decide +kernel)
  | 6, _ => exact W_in (w := .laysFinal R_GR R_GR "ways" "LGenericRegions$Ways;") (i := 285) (by decide +kernel) (by decide +kernel)
  | 7, _ => exact W_in (w := .laysFinal R_GR R_GR "tape" "LGenericRegions$Tape;") (i := 287) (by decide +kernel) (by decide +kernel)
  | 8, _ => exact W_in (w := .laysFinal R_GR R_GR "teller" "LGenericRegions$Teller;") (i := 289) (by decide +kernel) (by decide +kernel)
  | 9, _ => exact W_in (w := .laysFinal R_GR R_GR "inflow" "LGenericRegions$Inflow;") (i := 291) (by decide +kernel) (by decide +kernel)
  | 10, _ => exact W_in (w := .laysFinal R_GR R_GR "reader" "LGenericRegions$Reader;") (i := 293) (by decide +kernel) (by decide +kernel)
  | 11, _ => exact W_in (w := .lays R_GR R_GR "passed" "I") (i := 295) (by decide +kernel) (by decide +kernel)
  | k + 12, h => omega
theorem n_FaxLine : ∀ a, a < 4 → ∀ b, b < 4 → a ≠ b → (F_FaxLine a).2.1 ≠ (F_FaxLine b).2.1 := by decide +kernel
theorem t_FaxLine_ok : ∀ k, k < 4 → parseFieldDescriptor (F_FaxLine k).2.2.1 = some (t_FaxLine k) := by decide +kernel
theorem df_FaxLine : ∀ j, j < 4 → defaultValue (t_FaxLine j) = vp_V [.int 0, .int 0, .int 0, .int 0] j := fun j hj => match j, hj with
  | 0, _ => rfl
  | 1, _ => rfl
  | 2, _ => rfl
  | 3, _ => rfl
  | k + 4, h => by omega
theorem i_FaxLine : ∀ w ∈ w_FaxLine, w ∈ W_all := by
  intro w hw
  obtain ⟨k, hk, rfl⟩ := List.mem_map.mp hw
  have hk := List.mem_range.mp hk
  match k, hk with
  | 0, _ => exact W_in (w := .laysFinal R_FaxLine R_FaxLine "width" "I") (i := 158) (by decide +kernel) (by decide +kernel)
  | 1, _ => exact W_in (w := .lays R_FaxLine R_FaxLine "above" "I") (i := 160) (by decide +kernel) (by decide +kernel)
  | 2, _ => exact W_in (w := .lays R_FaxLine R_FaxLine "place" "I") (i := 162) (by decide +kernel) (by decide +kernel)
  | 3, _ => exact W_in (w := .lays R_FaxLine R_FaxLine "black" "Z") (i := 164) (by decide +kernel) (by decide +kernel)
  | k + 4, h => omega
theorem n_Inflow : ∀ a, a < 3 → ∀ b, b < 3 → a ≠ b → (F_Inflow a).2.1 ≠ (F_Inflow b).2.1 := by decide +kernel
theorem t_Inflow_ok : ∀ k, k < 3 → parseFieldDescriptor (F_Inflow k).2.2.1 = some (t_Inflow k) := by decide +kernel
theorem df_Inflow : ∀ j, j < 3 → defaultValue (t_Inflow j) = vp_V [.null, .int 0, .int 0] j := fun j hj => match j, hj with
  | 0, _ => rfl
  | 1, _ => rfl
  | 2, _ => rfl
  | k + 3, h => by omega
theorem i_Inflow : ∀ w ∈ w_Inflow, w ∈ W_all := by
  intro w hw
  obtain ⟨k, hk, rfl⟩ := List.mem_map.mp hw
  have hk := List.mem_range.mp hk
  match k, hk with
  | 0, _ => exact W_in (w := .laysFinal R_Inflow R_Inflow "words" "[I") (i := 201) (by decide +kernel) (by decide +kernel)
  | 1, _ => exact W_in (w := .lays R_Inflow R_Inflow "count" "I") (i := 203) (by decide +kernel) (by decide +kernel)
  | 2, _ => exact W_in (w := .lays R_Inflow R_Inflow "next" "I") (i := 205) (by decide +kernel) (by decide +kernel)
  | k + 3, h => omega
theorem n_Places : ∀ a, a < 4 → ∀ b, b < 4 → a ≠ b → (F_Places a).2.1 ≠ (F_Places b).2.1 := by decide +kernel
theorem t_Places_ok : ∀ k, k < 4 → parseFieldDescriptor (F_Places k).2.2.1 = some (t_Places k) := by decide +kernel
theorem df_Places : ∀ j, j < 4 → defaultValue (t_Places j) = vp_V [.int 0, .null, .null, .null] j := fun j hj => match j, hj with
  | 0, _ => rfl
  | 1, _ => rfl
  | 2, _ => rfl
  | 3, _ => rfl
  | k + 4, h => by omega
theorem i_Places : ∀ w ∈ w_Places, w ∈ W_all := by
  intro w hw
  obtain ⟨k, hk, rfl⟩ := List.mem_map.mp hw
  have hk := List.mem_range.mp hk
  match k, hk with
  | 0, _ => exact W_in (w := .laysFinal R_Places R_Places "template" "I") (i := 90) (by decide +kernel) (by decide +kernel)
  | 1, _ => exact W_in (w := .laysFinal R_Places R_Places "first" "[I") (i := 92) (by decide +kernel) (by decide +kernel)
  | 2, _ => exact W_in (w := .laysFinal R_Places R_Places "now" "[I") (i := 94) (by decide +kernel) (by decide +kernel)
  | 3, _ => exact W_in (w := .laysFinal R_Places R_Places "loosePlaces" "[I") (i := 96) (by decide +kernel) (by decide +kernel)
  | k + 4, h => omega
theorem n_Plane : ∀ a, a < 2 → ∀ b, b < 2 → a ≠ b → (F_Plane a).2.1 ≠ (F_Plane b).2.1 := by decide +kernel
theorem t_Plane_ok : ∀ k, k < 2 → parseFieldDescriptor (F_Plane k).2.2.1 = some (t_Plane k) := by decide +kernel
theorem df_Plane : ∀ j, j < 2 → defaultValue (t_Plane j) = vp_V [.int 0, .null] j := fun j hj => match j, hj with
  | 0, _ => rfl
  | 1, _ => rfl
  | k + 2, h => by omega
theorem i_Plane : ∀ w ∈ w_Plane, w ∈ W_all := by
  intro w hw
  obtain ⟨k, hk, rfl⟩ := List.mem_map.mp hw
  have hk := List.mem_range.mp hk
  match k, hk with
  | 0, _ => exact W_in (w := .laysFinal R_Plane R_Plane "width" "I") (i := 45) (by decide +kernel) (by decide +kernel)
  | 1, _ => exact W_in (w := .laysFinal R_Plane R_Plane "rows" "[I") (i := 47) (by decide +kernel) (by decide +kernel)
  | k + 2, h => omega
theorem n_Reader : ∀ a, a < 14 → ∀ b, b < 14 → a ≠ b → (F_Reader a).2.1 ≠ (F_Reader b).2.1 := by decide +kernel
theorem t_Reader_ok : ∀ k, k < 14 → parseFieldDescriptor (F_Reader k).2.2.1 = some (t_Reader k) := by decide +kernel
theorem df_Reader : ∀ j, j < 14 → defaultValue (t_Reader j) = vp_V [.int 0, .int 0, .null, .null, .null, .null, .null, .int 0, .int 0, .int 0, .int 0, .int 0, .int 0, .int 0] j := fun j hj => match j, hj with
  | 0, _ => rfl
  | 1, _ => rfl
  | 2, _ => rfl
  | 3, _ => rfl
  | 4, _ => rfl
  | 5, _ => rfl
  | 6, _ => rfl
  | 7, _ => rfl
  | 8, _ => rfl
  | 9, _ => rfl
  | 10, _ => rfl
  | 11, _ => rfl
  | 12, _ => rfl
  | 13, _ => rfl
  | k + 14, h => by omega
theorem i_Reader : ∀ w ∈ w_Reader, w ∈ W_all := by
  intro w hw
  obtain ⟨k, hk, rfl⟩ := List.mem_map.mp hw
  have hk := List.mem_range.mp hk
  match k, hk with
  | 0, _ => exact W_in (w := .laysFinal R_Reader R_Reader "width" "I") (i := 232) (by decide +kernel) (by decide +kernel)
  | 1, _ => exact W_in (w := .laysFinal R_Reader R_Reader "height" "I") (i := 234) (by decide +kernel) (by decide +kernel)
  | 2, _ => exact W_in (w := .laysFinal R_Reader R_Reader "skips" "LGenericRegions$Plane;") (i := 236) (by decide +kernel) (by decide +kernel)
  | 3, _ => exact W_in (w := .laysFinal R_Reader R_Reader "ways" "LGenericRegions$Ways;") (i := 238) (by decide +kernel) (by decide +kernel)
  | 4, _ => exact W_in (w := .laysFinal R_Reader R_Reader "inflow" "LGenericRegions$Inflow;") (i := 240) (by decide +kernel) (by decide +kernel)
  | 5, _ => exact W_in (w := .laysFinal R_Reader R_Reader "samples" "LGenericRegions$Plane;") (i := 242) (by decide +kernel) (by decide +kernel)
  | 6, _ => exact W_in (w := .laysFinal R_Reader R_Reader "line" "LGenericRegions$FaxLine;") (i := 244) (by decide +kernel) (by decide +kernel)
  | 7, _ => exact W_in (w := .lays R_Reader R_Reader "bitsRead" "I") (i := 246) (by decide +kernel) (by decide +kernel)
  | 8, _ => exact W_in (w := .lays R_Reader R_Reader "rowsRead" "I") (i := 248) (by decide +kernel) (by decide +kernel)
  | 9, _ => exact W_in (w := .lays R_Reader R_Reader "copyBefore" "Z") (i := 250) (by decide +kernel) (by decide +kernel)
  | 10, _ => exact W_in (w := .lays R_Reader R_Reader "ended" "Z") (i := 252) (by decide +kernel) (by decide +kernel)
  | 11, _ => exact W_in (w := .lays R_Reader R_Reader "refusal" "I") (i := 254) (by decide +kernel) (by decide +kernel)
  | 12, _ => exact W_in (w := .lays R_Reader R_Reader "current" "I") (i := 256) (by decide +kernel) (by decide +kernel)
  | 13, _ => exact W_in (w := .lays R_Reader R_Reader "currentIsCopy" "Z") (i := 258) (by decide +kernel) (by decide +kernel)
  | k + 14, h => omega
theorem n_Tape : ∀ a, a < 2 → ∀ b, b < 2 → a ≠ b → (F_Tape a).2.1 ≠ (F_Tape b).2.1 := by decide +kernel
theorem t_Tape_ok : ∀ k, k < 2 → parseFieldDescriptor (F_Tape k).2.2.1 = some (t_Tape k) := by decide +kernel
theorem df_Tape : ∀ j, j < 2 → defaultValue (t_Tape j) = vp_V [.null, .int 0] j := fun j hj => match j, hj with
  | 0, _ => rfl
  | 1, _ => rfl
  | k + 2, h => by omega
theorem i_Tape : ∀ w ∈ w_Tape, w ∈ W_all := by
  intro w hw
  obtain ⟨k, hk, rfl⟩ := List.mem_map.mp hw
  have hk := List.mem_range.mp hk
  match k, hk with
  | 0, _ => exact W_in (w := .laysFinal R_Tape R_Tape "entries" "[I") (i := 127) (by decide +kernel) (by decide +kernel)
  | 1, _ => exact W_in (w := .lays R_Tape R_Tape "count" "I") (i := 129) (by decide +kernel) (by decide +kernel)
  | k + 2, h => omega
theorem n_Teller : ∀ a, a < 8 → ∀ b, b < 8 → a ≠ b → (F_Teller a).2.1 ≠ (F_Teller b).2.1 := by decide +kernel
theorem t_Teller_ok : ∀ k, k < 8 → parseFieldDescriptor (F_Teller k).2.2.1 = some (t_Teller k) := by decide +kernel
theorem df_Teller : ∀ j, j < 8 → defaultValue (t_Teller j) = vp_V [.null, .null, .null, .null, .null, .null, .null, .int 0] j := fun j hj => match j, hj with
  | 0, _ => rfl
  | 1, _ => rfl
  | 2, _ => rfl
  | 3, _ => rfl
  | 4, _ => rfl
  | 5, _ => rfl
  | 6, _ => rfl
  | 7, _ => rfl
  | k + 8, h => by omega
theorem i_Teller : ∀ w ∈ w_Teller, w ∈ W_all := by
  intro w hw
  obtain ⟨k, hk, rfl⟩ := List.mem_map.mp hw
  have hk := List.mem_range.mp hk
  match k, hk with
  | 0, _ => exact W_in (w := .laysFinal R_Teller R_Teller "ink" "LGenericRegions$Plane;") (i := 175) (by decide +kernel) (by decide +kernel)
  | 1, _ => exact W_in (w := .laysFinal R_Teller R_Teller "skips" "LGenericRegions$Plane;") (i := 177) (by decide +kernel) (by decide +kernel)
  | 2, _ => exact W_in (w := .laysFinal R_Teller R_Teller "seen" "LGenericRegions$Plane;") (i := 179) (by decide +kernel) (by decide +kernel)
  | 3, _ => exact W_in (w := .laysFinal R_Teller R_Teller "places" "LGenericRegions$Places;") (i := 181) (by decide +kernel) (by decide +kernel)
  | 4, _ => exact W_in (w := .laysFinal R_Teller R_Teller "ways" "LGenericRegions$Ways;") (i := 183) (by decide +kernel) (by decide +kernel)
  | 5, _ => exact W_in (w := .laysFinal R_Teller R_Teller "tape" "LGenericRegions$Tape;") (i := 185) (by decide +kernel) (by decide +kernel)
  | 6, _ => exact W_in (w := .laysFinal R_Teller R_Teller "line" "LGenericRegions$FaxLine;") (i := 187) (by decide +kernel) (by decide +kernel)
  | 7, _ => exact W_in (w := .lays R_Teller R_Teller "copyCount" "I") (i := 189) (by decide +kernel) (by decide +kernel)
  | k + 8, h => omega
theorem n_Ways : ∀ a, a < 3 → ∀ b, b < 3 → a ≠ b → (F_Ways a).2.1 ≠ (F_Ways b).2.1 := by decide +kernel
theorem t_Ways_ok : ∀ k, k < 3 → parseFieldDescriptor (F_Ways k).2.2.1 = some (t_Ways k) := by decide +kernel
theorem df_Ways : ∀ j, j < 3 → defaultValue (t_Ways j) = vp_V [.int 0, .int 0, .int 0] j := fun j hj => match j, hj with
  | 0, _ => rfl
  | 1, _ => rfl
  | 2, _ => rfl
  | k + 3, h => by omega
theorem i_Ways : ∀ w ∈ w_Ways, w ∈ W_all := by
  intro w hw
  obtain ⟨k, hk, rfl⟩ := List.mem_map.mp hw
  have hk := List.mem_range.mp hk
  match k, hk with
  | 0, _ => exact W_in (w := .lays R_Ways R_Ways "typical" "Z") (i := 108) (by decide +kernel) (by decide +kernel)
  | 1, _ => exact W_in (w := .lays R_Ways R_Ways "byFax" "Z") (i := 110) (by decide +kernel) (by decide +kernel)
  | 2, _ => exact W_in (w := .lays R_Ways R_Ways "open" "Z") (i := 112) (by decide +kernel) (by decide +kernel)
  | k + 3, h => omega
theorem n_Md : ∀ a, a < 36 → ∀ b, b < 36 → a ≠ b → (F_Md a).2.1 ≠ (F_Md b).2.1 := by decide +kernel
theorem t_Md_ok : ∀ k, k < 36 → parseFieldDescriptor (F_Md k).2.2.1 = some (t_Md k) := by decide +kernel
theorem df_Md : ∀ j, j < 36 → defaultValue (t_Md j) = vp_V [.null, .null, .null, .null, .null, .int 0, .int 0, .int 0, .int 0, .int 0, .null, .null, .null, .int 0, .int 0, .int 0, .int 0, .int 0, .int 0, .null, .null, .null, .null, .int 0, .null, .null, .int 0, .int 0, .int 0, .int 0, .int 0, .int 0, .int 0, .int 0, .int 0, .int 0] j := fun j hj => match j, hj with
  | 0, _ => rfl
  | 1, _ => rfl
  | 2, _ => rfl
  | 3, _ => rfl
  | 4, _ => rfl
  | 5, _ => rfl
  | 6, _ => rfl
  | 7, _ => rfl
  | 8, _ => rfl
  | 9, _ => rfl
  | 10, _ => rfl
  | 11, _ => rfl
  | 12, _ => rfl
  | 13, _ => rfl
  | 14, _ => rfl
  | 15, _ => rfl
  | 16, _ => rfl
  | 17, _ => rfl
  | 18, _ => rfl
  | 19, _ => rfl
  | 20, _ => rfl
  | 21, _ => rfl
  | 22, _ => rfl
  | 23, _ => rfl
  | 24, _ => rfl
  | 25, _ => rfl
  | 26, _ => rfl
  | 27, _ => rfl
  | 28, _ => rfl
  | 29, _ => rfl
  | 30, _ => rfl
  | 31, _ => rfl
  | 32, _ => rfl
  | 33, _ => rfl
  | 34, _ => rfl
  | 35, _ => rfl
  | k + 36, h => by omega
theorem i_Md : ∀ w ∈ w_Md, w ∈ W_all := by
  intro w hw
  obtain ⟨k, hk, rfl⟩ := List.mem_map.mp hw
  have hk := List.mem_range.mp hk
  match k, hk with
  | 0, _ => exact W_in (w := .laysFinal R_Md R_Md "fine" "[I") (i := 919) (by decide +kernel) (by decide +kernel)
  | 1, _ => exact W_in (w := .laysFinal R_Md R_Md "middle" "[I") (i := 921) (by decide +kernel) (by decide +kernel)
  | 2, _ => exact W_in (w := .laysFinal R_Md R_Md "coarse" "[I") (i := 923) (by decide +kernel) (by decide +kernel)
  | 3, _ => exact W_in (w := .laysFinal R_Md R_Md "flat" "[I") (i := 925) (by decide +kernel) (by decide +kernel)
  | 4, _ => exact W_in (w := .laysFinal R_Md R_Md "looseOnes" "[I") (i := 927) (by decide +kernel) (by decide +kernel)
  | 5, _ => exact W_in (w := .lays R_Md R_Md "code" "I") (i := 929) (by decide +kernel) (by decide +kernel)
  | 6, _ => exact W_in (w := .laysFinal R_Md R_Md "width" "I") (i := 931) (by decide +kernel) (by decide +kernel)
  | 7, _ => exact W_in (w := .laysFinal R_Md R_Md "height" "I") (i := 933) (by decide +kernel) (by decide +kernel)
  | 8, _ => exact W_in (w := .laysFinal R_Md R_Md "template" "I") (i := 935) (by decide +kernel) (by decide +kernel)
  | 9, _ => exact W_in (w := .lays R_Md R_Md "placeMany" "I") (i := 937) (by decide +kernel) (by decide +kernel)
  | 10, _ => exact W_in (w := .laysFinal R_Md R_Md "places" "[I") (i := 939) (by decide +kernel) (by decide +kernel)
  | 11, _ => exact W_in (w := .laysFinal R_Md R_Md "black" "[Z") (i := 941) (by decide +kernel) (by decide +kernel)
  | 12, _ => exact W_in (w := .laysFinal R_Md R_Md "skipped" "[Z") (i := 943) (by decide +kernel) (by decide +kernel)
  | 13, _ => exact W_in (w := .lays R_Md R_Md "isTypical" "Z") (i := 945) (by decide +kernel) (by decide +kernel)
  | 14, _ => exact W_in (w := .lays R_Md R_Md "isFax" "Z") (i := 947) (by decide +kernel) (by decide +kernel)
  | 15, _ => exact W_in (w := .lays R_Md R_Md "isOpen" "Z") (i := 949) (by decide +kernel) (by decide +kernel)
  | 16, _ => exact W_in (w := .lays R_Md R_Md "toldMany" "I") (i := 951) (by decide +kernel) (by decide +kernel)
  | 17, _ => exact W_in (w := .lays R_Md R_Md "passed" "I") (i := 953) (by decide +kernel) (by decide +kernel)
  | 18, _ => exact W_in (w := .lays R_Md R_Md "copied" "I") (i := 955) (by decide +kernel) (by decide +kernel)
  | 19, _ => exact W_in (w := .laysFinal R_Md R_Md "known" "[Z") (i := 957) (by decide +kernel) (by decide +kernel)
  | 20, _ => exact W_in (w := .laysFinal R_Md R_Md "bits" "[I") (i := 959) (by decide +kernel) (by decide +kernel)
  | 21, _ => exact W_in (w := .laysFinal R_Md R_Md "contexts" "[I") (i := 961) (by decide +kernel) (by decide +kernel)
  | 22, _ => exact W_in (w := .laysFinal R_Md R_Md "rowsOf" "[I") (i := 963) (by decide +kernel) (by decide +kernel)
  | 23, _ => exact W_in (w := .lays R_Md R_Md "cameMany" "I") (i := 965) (by decide +kernel) (by decide +kernel)
  | 24, _ => exact W_in (w := .laysFinal R_Md R_Md "came" "[I") (i := 967) (by decide +kernel) (by decide +kernel)
  | 25, _ => exact W_in (w := .laysFinal R_Md R_Md "found" "[Z") (i := 969) (by decide +kernel) (by decide +kernel)
  | 26, _ => exact W_in (w := .lays R_Md R_Md "readBits" "I") (i := 971) (by decide +kernel) (by decide +kernel)
  | 27, _ => exact W_in (w := .lays R_Md R_Md "rowsRead" "I") (i := 973) (by decide +kernel) (by decide +kernel)
  | 28, _ => exact W_in (w := .lays R_Md R_Md "isDone" "Z") (i := 975) (by decide +kernel) (by decide +kernel)
  | 29, _ => exact W_in (w := .lays R_Md R_Md "refused" "I") (i := 977) (by decide +kernel) (by decide +kernel)
  | 30, _ => exact W_in (w := .lays R_Md R_Md "at" "I") (i := 979) (by decide +kernel) (by decide +kernel)
  | 31, _ => exact W_in (w := .lays R_Md R_Md "lacks" "Z") (i := 981) (by decide +kernel) (by decide +kernel)
  | 32, _ => exact W_in (w := .lays R_Md R_Md "why" "I") (i := 983) (by decide +kernel) (by decide +kernel)
  | 33, _ => exact W_in (w := .lays R_Md R_Md "wasCopy" "Z") (i := 985) (by decide +kernel) (by decide +kernel)
  | 34, _ => exact W_in (w := .lays R_Md R_Md "place" "I") (i := 987) (by decide +kernel) (by decide +kernel)
  | 35, _ => exact W_in (w := .lays R_Md R_Md "colour" "Z") (i := 989) (by decide +kernel) (by decide +kernel)
  | k + 36, h => omega
