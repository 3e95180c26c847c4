def RX0 : String := "WireField$Grid"
def TX0 : u_T := fun k => match k with
  | 0 => ("WireField$Grid", "heads", "[I", true)
  | 1 => ("WireField$Grid", "tails", "[I", true)
  | _ => ("WireField$Grid", "wires", "[I", true)
def tyX0 : Nat → FieldType := fun k => match k with
  | 0 => .array .int
  | 1 => .array .int
  | _ => .array .int
theorem nmX0 : ∀ a, a < 3 → ∀ b, b < 3 → a ≠ b → (TX0 a).2.1 ≠ (TX0 b).2.1 := by decide +kernel
theorem tyX0_ok : ∀ k, k < 3 → parseFieldDescriptor (TX0 k).2.2.1 = some (tyX0 k) := by decide +kernel
def RX1 : String := "WireField$Moment"
def TX1 : u_T := fun k => match k with
  | 0 => ("WireField$Moment", "grid", "LWireField$Grid;", true)
  | _ => ("WireField$Moment", "places", "[I", true)
def tyX1 : Nat → FieldType := fun k => match k with
  | 0 => .object "WireField$Grid"
  | _ => .array .int
theorem nmX1 : ∀ a, a < 2 → ∀ b, b < 2 → a ≠ b → (TX1 a).2.1 ≠ (TX1 b).2.1 := by decide +kernel
theorem tyX1_ok : ∀ k, k < 2 → parseFieldDescriptor (TX1 k).2.2.1 = some (tyX1 k) := by decide +kernel
def RX2 : String := "WireField$Pen"
def TX2 : u_T := fun k => match k with
  | 0 => ("WireField$Pen", "sheet", "LWireField$Grid;", true)
  | 1 => ("WireField$Pen", "column", "I", false)
  | 2 => ("WireField$Pen", "row", "I", false)
  | 3 => ("WireField$Pen", "direction", "I", false)
  | 4 => ("WireField$Pen", "isDown", "Z", false)
  | _ => ("WireField$Pen", "ordersDone", "I", false)
def tyX2 : Nat → FieldType := fun k => match k with
  | 0 => .object "WireField$Grid"
  | 1 => .int
  | 2 => .int
  | 3 => .int
  | 4 => .boolean
  | _ => .int
theorem nmX2 : ∀ a, a < 6 → ∀ b, b < 6 → a ≠ b → (TX2 a).2.1 ≠ (TX2 b).2.1 := by decide +kernel
theorem tyX2_ok : ∀ k, k < 6 → parseFieldDescriptor (TX2 k).2.2.1 = some (tyX2 k) := by decide +kernel
def RX3 : String := "WireField$Probe"
def TX3 : u_T := fun k => match k with
  | 0 => ("WireField$Probe", "column", "I", false)
  | 1 => ("WireField$Probe", "row", "I", false)
  | 2 => ("WireField$Probe", "headCount", "I", false)
  | 3 => ("WireField$Probe", "latestTime", "I", false)
  | _ => ("WireField$Probe", "headBits", "J", false)
def tyX3 : Nat → FieldType := fun k => match k with
  | 0 => .int
  | 1 => .int
  | 2 => .int
  | 3 => .int
  | _ => .long
theorem nmX3 : ∀ a, a < 5 → ∀ b, b < 5 → a ≠ b → (TX3 a).2.1 ≠ (TX3 b).2.1 := by decide +kernel
theorem tyX3_ok : ∀ k, k < 5 → parseFieldDescriptor (TX3 k).2.2.1 = some (tyX3 k) := by decide +kernel
def RX4 : String := "WireField$Source"
def TX4 : u_T := fun k => match k with
  | 0 => ("WireField$Source", "column", "I", false)
  | 1 => ("WireField$Source", "row", "I", false)
  | 2 => ("WireField$Source", "pattern", "J", false)
  | 3 => ("WireField$Source", "patternLength", "I", false)
  | _ => ("WireField$Source", "place", "I", false)
def tyX4 : Nat → FieldType := fun k => match k with
  | 0 => .int
  | 1 => .int
  | 2 => .long
  | 3 => .int
  | _ => .int
theorem nmX4 : ∀ a, a < 5 → ∀ b, b < 5 → a ≠ b → (TX4 a).2.1 ≠ (TX4 b).2.1 := by decide +kernel
theorem tyX4_ok : ∀ k, k < 5 → parseFieldDescriptor (TX4 k).2.2.1 = some (tyX4 k) := by decide +kernel
def RX5 : String := "WireField$Text"
def TX5 : u_T := fun k => match k with
  | 0 => ("WireField$Text", "signs", "[C", true)
  | _ => ("WireField$Text", "length", "I", false)
def tyX5 : Nat → FieldType := fun k => match k with
  | 0 => .array .char
  | _ => .int
theorem nmX5 : ∀ a, a < 2 → ∀ b, b < 2 → a ≠ b → (TX5 a).2.1 ≠ (TX5 b).2.1 := by decide +kernel
theorem tyX5_ok : ∀ k, k < 2 → parseFieldDescriptor (TX5 k).2.2.1 = some (tyX5 k) := by decide +kernel
def RX6 : String := "WireField"
def TX6 : u_T := fun k => match k with
  | 0 => ("WireField", "field", "LWireField$Grid;", true)
  | 1 => ("WireField", "draft", "LWireField$Grid;", true)
  | 2 => ("WireField", "pen", "LWireField$Pen;", true)
  | 3 => ("WireField", "line", "LWireField$Text;", true)
  | 4 => ("WireField", "macros", "[LWireField$Text;", true)
  | 5 => ("WireField", "macroIsThere", "[Z", true)
  | 6 => ("WireField", "sources", "[LWireField$Source;", true)
  | 7 => ("WireField", "sourceCount", "I", false)
  | 8 => ("WireField", "probes", "[LWireField$Probe;", true)
  | 9 => ("WireField", "probeCount", "I", false)
  | 10 => ("WireField", "moments", "[LWireField$Moment;", true)
  | 11 => ("WireField", "keptCount", "I", false)
  | _ => ("WireField", "time", "I", false)
def tyX6 : Nat → FieldType := fun k => match k with
  | 0 => .object "WireField$Grid"
  | 1 => .object "WireField$Grid"
  | 2 => .object "WireField$Pen"
  | 3 => .object "WireField$Text"
  | 4 => .array (.object "WireField$Text")
  | 5 => .array .boolean
  | 6 => .array (.object "WireField$Source")
  | 7 => .int
  | 8 => .array (.object "WireField$Probe")
  | 9 => .int
  | 10 => .array (.object "WireField$Moment")
  | 11 => .int
  | _ => .int
theorem nmX6 : ∀ a, a < 13 → ∀ b, b < 13 → a ≠ b → (TX6 a).2.1 ≠ (TX6 b).2.1 := by decide +kernel
theorem tyX6_ok : ∀ k, k < 13 → parseFieldDescriptor (TX6 k).2.2.1 = some (tyX6 k) := by decide +kernel
def RX7 : String := "WireFieldModel"
def TX7 : u_T := fun k => match k with
  | _ => ("", "", "", false)
def tyX7 : Nat → FieldType := fun k => match k with
  | _ => .int
theorem nmX7 : ∀ a, a < 0 → ∀ b, b < 0 → a ≠ b → (TX7 a).2.1 ≠ (TX7 b).2.1 := by decide +kernel
theorem tyX7_ok : ∀ k, k < 0 → parseFieldDescriptor (TX7 k).2.2.1 = some (tyX7 k) := by decide +kernel
abbrev vwCl : List vw_C := [(RX0, TX0, 3), (RX1, TX1, 2), (RX2, TX2, 6), (RX3, TX3, 5), (RX4, TX4, 5), (RX5, TX5, 2), (RX6, TX6, 13), (RX7, TX7, 0)]
def y_WF_init : MethodName := ⟨"WireField", "<init>", "()V"⟩
def y_WF_type : MethodName := ⟨"WireField", "type", "(C)Z"⟩
def y_WF_draw : MethodName := ⟨"WireField", "draw", "(III)I"⟩
def y_WF_macro : MethodName := ⟨"WireField", "macro", "(I)V"⟩
def y_WF_wipe : MethodName := ⟨"WireField", "wipe", "()V"⟩
def y_WF_set : MethodName := ⟨"WireField", "set", "(III)Z"⟩
def y_WF_cell : MethodName := ⟨"WireField", "cell", "(II)I"⟩
def y_WF_copy : MethodName := ⟨"WireField", "copy", "(IIIIIII)Z"⟩
def y_WF_source : MethodName := ⟨"WireField", "source", "(IIJI)I"⟩
def y_WF_probe : MethodName := ⟨"WireField", "probe", "(II)I"⟩
def y_WF_run : MethodName := ⟨"WireField", "run", "(I)I"⟩
def y_WF_back : MethodName := ⟨"WireField", "back", "(I)Z"⟩
def y_WF_period : MethodName := ⟨"WireField", "period", "()I"⟩
def y_WF_seen : MethodName := ⟨"WireField", "seen", "(II)I"⟩
def y_WF_record : MethodName := ⟨"WireField", "record", "(I)J"⟩
def y_WF_look : MethodName := ⟨"WireField", "look", "(I)I"⟩
def y_WF_isWithin : MethodName := ⟨"WireField", "isWithin", "(II)Z"⟩
def y_WF_isPiece : MethodName := ⟨"WireField", "isPiece", "(IIII)Z"⟩
def y_WF_putTurned : MethodName := ⟨"WireField", "putTurned", "(IIIIIII)V"⟩
def y_WF_turnedX : MethodName := ⟨"WireField", "turnedX", "(IIIII)I"⟩
def y_WF_turnedY : MethodName := ⟨"WireField", "turnedY", "(IIIII)I"⟩
def y_WF_forgetHistory : MethodName := ⟨"WireField", "forgetHistory", "()V"⟩
def y_WF_momentAt : MethodName := ⟨"WireField", "momentAt", "(I)LWireField$Moment;"⟩
def y_WF_makeGeneration : MethodName := ⟨"WireField", "makeGeneration", "()V"⟩
def y_WF_keepMoment : MethodName := ⟨"WireField", "keepMoment", "()V"⟩
def y_WF_macrosOfLineAreThere : MethodName := ⟨"WireField", "macrosOfLineAreThere", "()Z"⟩
def y_WF_perform : MethodName := ⟨"WireField", "perform", "(LWireField$Text;III)Z"⟩
def y_WF_performOrder : MethodName := ⟨"WireField", "performOrder", "(LWireField$Text;III)Z"⟩
def y_WF_performBranch : MethodName := ⟨"WireField", "performBranch", "(LWireField$Text;III)Z"⟩
def y_WF_performMacro : MethodName := ⟨"WireField", "performMacro", "(II)Z"⟩
def y_M_init : MethodName := ⟨"WireFieldModel", "<init>", "()V"⟩
def y_M_thrown : MethodName := ⟨"WireFieldModel", "thrown", "()I"⟩
def y_M_is : MethodName := ⟨"WireFieldModel", "is", "(II)Z"⟩
def y_M_bit : MethodName := ⟨"WireFieldModel", "bit", "(II)I"⟩
def y_M_headsIn : MethodName := ⟨"WireFieldModel", "headsIn", "(I)I"⟩
def y_M_lit : MethodName := ⟨"WireFieldModel", "lit", "(I)I"⟩
def y_M_keep : MethodName := ⟨"WireFieldModel", "keep", "()V"⟩
def y_M_generation : MethodName := ⟨"WireFieldModel", "generation", "()V"⟩
def y_M_run : MethodName := ⟨"WireFieldModel", "run", "(I)I"⟩
def y_M_back : MethodName := ⟨"WireFieldModel", "back", "(I)Z"⟩
def y_M_period : MethodName := ⟨"WireFieldModel", "period", "()I"⟩
def y_M_type : MethodName := ⟨"WireFieldModel", "type", "(C)Z"⟩
def y_M_wipe : MethodName := ⟨"WireFieldModel", "wipe", "()V"⟩
def y_M_sign : MethodName := ⟨"WireFieldModel", "sign", "(II)I"⟩
def y_M_digit : MethodName := ⟨"WireFieldModel", "digit", "(I)Z"⟩
def y_M_single : MethodName := ⟨"WireFieldModel", "single", "(I)Z"⟩
def y_M_reads : MethodName := ⟨"WireFieldModel", "reads", "()Z"⟩
def y_M_complete : MethodName := ⟨"WireFieldModel", "complete", "()Z"⟩
def y_M_macro : MethodName := ⟨"WireFieldModel", "macro", "(I)V"⟩
def y_M_across : MethodName := ⟨"WireFieldModel", "across", "(I)I"⟩
def y_M_down : MethodName := ⟨"WireFieldModel", "down", "(I)I"⟩
def y_M_countOne : MethodName := ⟨"WireFieldModel", "countOne", "()V"⟩
def y_M_put : MethodName := ⟨"WireFieldModel", "put", "(III)V"⟩
def y_M_step : MethodName := ⟨"WireFieldModel", "step", "(IZZ)V"⟩
def y_M_obey : MethodName := ⟨"WireFieldModel", "obey", "(I)V"⟩
def y_M_open : MethodName := ⟨"WireFieldModel", "open", "(IIII)V"⟩
def y_M_again : MethodName := ⟨"WireFieldModel", "again", "()V"⟩
def y_M_comeBack : MethodName := ⟨"WireFieldModel", "comeBack", "()V"⟩
def y_M_behind : MethodName := ⟨"WireFieldModel", "behind", "(II)I"⟩
def y_M_goThrough : MethodName := ⟨"WireFieldModel", "goThrough", "()V"⟩
def y_M_draw : MethodName := ⟨"WireFieldModel", "draw", "(III)I"⟩
def y_M_change : MethodName := ⟨"WireFieldModel", "change", "(III)V"⟩
def y_M_set : MethodName := ⟨"WireFieldModel", "set", "(III)Z"⟩
def y_M_cell : MethodName := ⟨"WireFieldModel", "cell", "(II)I"⟩
def y_M_copy : MethodName := ⟨"WireFieldModel", "copy", "(IIIIIII)Z"⟩
def y_M_source : MethodName := ⟨"WireFieldModel", "source", "(IIJI)I"⟩
def y_M_probe : MethodName := ⟨"WireFieldModel", "probe", "(II)I"⟩
def y_M_seen : MethodName := ⟨"WireFieldModel", "seen", "(II)I"⟩
def y_M_record : MethodName := ⟨"WireFieldModel", "record", "(I)J"⟩
def y_M_count : MethodName := ⟨"WireFieldModel", "count", "(I)I"⟩
def y_M_look : MethodName := ⟨"WireFieldModel", "look", "(I)I"⟩
def y_G_init : MethodName := ⟨"WireField$Grid", "<init>", "()V"⟩
def y_G_valueAt : MethodName := ⟨"WireField$Grid", "valueAt", "(II)I"⟩
def y_G_put : MethodName := ⟨"WireField$Grid", "put", "(III)V"⟩
def y_G_takeFrom : MethodName := ⟨"WireField$Grid", "takeFrom", "(LWireField$Grid;)V"⟩
def y_G_isSameAs : MethodName := ⟨"WireField$Grid", "isSameAs", "(LWireField$Grid;)Z"⟩
def y_G_count : MethodName := ⟨"WireField$Grid", "count", "(I)I"⟩
def y_G_becomeGenerationAfter : MethodName := ⟨"WireField$Grid", "becomeGenerationAfter", "(LWireField$Grid;)V"⟩
def y_G_besideOneOrTwoHeads : MethodName := ⟨"WireField$Grid", "besideOneOrTwoHeads", "(I)I"⟩
def y_Mo_init : MethodName := ⟨"WireField$Moment", "<init>", "()V"⟩
def y_Pe_init : MethodName := ⟨"WireField$Pen", "<init>", "()V"⟩
def y_Pe_begin : MethodName := ⟨"WireField$Pen", "begin", "(LWireField$Grid;III)V"⟩
def y_Pe_countOrder : MethodName := ⟨"WireField$Pen", "countOrder", "()Z"⟩
def y_Pe_obey : MethodName := ⟨"WireField$Pen", "obey", "(C)Z"⟩
def y_Pe_columnAt : MethodName := ⟨"WireField$Pen", "columnAt", "(II)I"⟩
def y_Pe_rowAt : MethodName := ⟨"WireField$Pen", "rowAt", "(II)I"⟩
def y_Pe_hasCell : MethodName := ⟨"WireField$Pen", "hasCell", "(II)Z"⟩
def y_Pe_mark : MethodName := ⟨"WireField$Pen", "mark", "(II)V"⟩
def y_Pe_move : MethodName := ⟨"WireField$Pen", "move", "(I)Z"⟩
def y_Pe_drawForward : MethodName := ⟨"WireField$Pen", "drawForward", "()Z"⟩
def y_Pe_putElectron : MethodName := ⟨"WireField$Pen", "putElectron", "()V"⟩
def y_Pe_drawDiode : MethodName := ⟨"WireField$Pen", "drawDiode", "()Z"⟩
def y_Pr_init : MethodName := ⟨"WireField$Probe", "<init>", "()V"⟩
def y_Pr_begin : MethodName := ⟨"WireField$Probe", "begin", "(II)V"⟩
def y_Pr_lookAt : MethodName := ⟨"WireField$Probe", "lookAt", "(LWireField$Grid;I)V"⟩
def y_So_init : MethodName := ⟨"WireField$Source", "<init>", "()V"⟩
def y_So_begin : MethodName := ⟨"WireField$Source", "begin", "(IIJI)V"⟩
def y_So_actOn : MethodName := ⟨"WireField$Source", "actOn", "(LWireField$Grid;)V"⟩
def y_Tx_init : MethodName := ⟨"WireField$Text", "<init>", "()V"⟩
def y_Tx_add : MethodName := ⟨"WireField$Text", "add", "(C)Z"⟩
def y_Tx_clear : MethodName := ⟨"WireField$Text", "clear", "()V"⟩
def y_Tx_takeFrom : MethodName := ⟨"WireField$Text", "takeFrom", "(LWireField$Text;)V"⟩
def y_Tx_signAt : MethodName := ⟨"WireField$Text", "signAt", "(I)C"⟩
def y_Tx_digitsAt : MethodName := ⟨"WireField$Text", "digitsAt", "(I)I"⟩
def y_Tx_timesAt : MethodName := ⟨"WireField$Text", "timesAt", "(I)I"⟩
def y_Tx_isDigit : MethodName := ⟨"WireField$Text", "isDigit", "(C)Z"⟩
def y_Tx_isOrders : MethodName := ⟨"WireField$Text", "isOrders", "(I)Z"⟩
def y_Tx_behindOrder : MethodName := ⟨"WireField$Text", "behindOrder", "(I)I"⟩
def y_Tx_heldMacros : MethodName := ⟨"WireField$Text", "heldMacros", "()I"⟩
def y_Tx_endOfOrders : MethodName := ⟨"WireField$Text", "endOfOrders", "(III)I"⟩
def y_Tx_endOfOrder : MethodName := ⟨"WireField$Text", "endOfOrder", "(III)I"⟩
def y_Tx_endOfBracket : MethodName := ⟨"WireField$Text", "endOfBracket", "(ICII)I"⟩
def y_Tx_isClosing : MethodName := ⟨"WireField$Text", "isClosing", "(C)Z"⟩
def y_Lw_draw : MethodName := ⟨"WireFieldLaw", "draw", "(LWireField;III[J)I"⟩
def y_Lw_macro : MethodName := ⟨"WireFieldLaw", "macro", "(LWireField;I)I"⟩
def y_Lw_seen : MethodName := ⟨"WireFieldLaw", "seen", "(LWireField;II[J)I"⟩
