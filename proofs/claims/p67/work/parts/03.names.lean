def RX0 : String := "ContainerTerminal$Cargo"
def TX0 : u_T := fun k => match k with
  | 0 => ("ContainerTerminal$Cargo", "ids", "[I", true)
  | 1 => ("ContainerTerminal$Cargo", "weights", "[I", true)
  | 2 => ("ContainerTerminal$Cargo", "keys", "[I", true)
  | 3 => ("ContainerTerminal$Cargo", "piles", "[I", true)
  | 4 => ("ContainerTerminal$Cargo", "levels", "[I", true)
  | 5 => ("ContainerTerminal$Cargo", "copiedStack", "[I", true)
  | _ => ("ContainerTerminal$Cargo", "count", "I", false)
def tyX0 : Nat → FieldType := fun k => match k with
  | 0 => .array .int
  | 1 => .array .int
  | 2 => .array .int
  | 3 => .array .int
  | 4 => .array .int
  | 5 => .array .int
  | _ => .int
abbrev wsX00 : List Cond := u_ws RX0 TX0 7
theorem nmX0 : ∀ a, a < 7 → ∀ b, b < 7 → a ≠ b → (TX0 a).2.1 ≠ (TX0 b).2.1 := by decide +kernel
theorem tyX0_ok : ∀ k, k < 7 → parseFieldDescriptor (TX0 k).2.2.1 = some (tyX0 k) := by decide +kernel
abbrev cX0_init : ByteArray := prog_2_method_1_code
def yX0_init : MethodName := ⟨RX0, "<init>", "()V"⟩
abbrev cX0_copyFrom : ByteArray := prog_2_method_2_code
def yX0_copyFrom : MethodName := ⟨RX0, "copyFrom", "(LContainerTerminal$Cargo;)V"⟩
abbrev cX0_add : ByteArray := prog_2_method_3_code
def yX0_add : MethodName := ⟨RX0, "add", "(IIII)V"⟩
abbrev cX0_put : ByteArray := prog_2_method_4_code
def yX0_put : MethodName := ⟨RX0, "put", "(II)V"⟩
abbrev cX0_remove : ByteArray := prog_2_method_5_code
def yX0_remove : MethodName := ⟨RX0, "remove", "(I)V"⟩
abbrev cX0_lower : ByteArray := prog_2_method_6_code
def yX0_lower : MethodName := ⟨RX0, "lower", "(I)V"⟩
abbrev cX0_copyRow : ByteArray := prog_2_method_7_code
def yX0_copyRow : MethodName := ⟨RX0, "copyRow", "(II)V"⟩
abbrev cX0_hasRow : ByteArray := prog_2_method_8_code
def yX0_hasRow : MethodName := ⟨RX0, "hasRow", "(I)Z"⟩
abbrev cX0_id : ByteArray := prog_2_method_9_code
def yX0_id : MethodName := ⟨RX0, "id", "(I)I"⟩
abbrev cX0_weight : ByteArray := prog_2_method_10_code
def yX0_weight : MethodName := ⟨RX0, "weight", "(I)I"⟩
abbrev cX0_key : ByteArray := prog_2_method_11_code
def yX0_key : MethodName := ⟨RX0, "key", "(I)I"⟩
abbrev cX0_answer : ByteArray := prog_2_method_12_code
def yX0_answer : MethodName := ⟨RX0, "answer", "(I)I"⟩
abbrev cX0_pile : ByteArray := prog_2_method_13_code
def yX0_pile : MethodName := ⟨RX0, "pile", "(I)I"⟩
abbrev cX0_rowOf : ByteArray := prog_2_method_15_code
def yX0_rowOf : MethodName := ⟨RX0, "rowOf", "(I)I"⟩
abbrev cX0_shipRowOf : ByteArray := prog_2_method_16_code
def yX0_shipRowOf : MethodName := ⟨RX0, "shipRowOf", "(I)I"⟩
abbrev cX0_yardRowOf : ByteArray := prog_2_method_17_code
def yX0_yardRowOf : MethodName := ⟨RX0, "yardRowOf", "(I)I"⟩
abbrev cX0_rowAt : ByteArray := prog_2_method_18_code
def yX0_rowAt : MethodName := ⟨RX0, "rowAt", "(II)I"⟩
abbrev cX0_topRow : ByteArray := prog_2_method_19_code
def yX0_topRow : MethodName := ⟨RX0, "topRow", "(I)I"⟩
abbrev cX0_height : ByteArray := prog_2_method_20_code
def yX0_height : MethodName := ⟨RX0, "height", "(I)I"⟩
abbrev cX0_isAt : ByteArray := prog_2_method_21_code
def yX0_isAt : MethodName := ⟨RX0, "isAt", "(II)Z"⟩
abbrev cX0_onShips : ByteArray := prog_2_method_22_code
def yX0_onShips : MethodName := ⟨RX0, "onShips", "()I"⟩
abbrev cX0_loadOf : ByteArray := prog_2_method_23_code
def yX0_loadOf : MethodName := ⟨RX0, "loadOf", "(I)I"⟩
abbrev cX0_weightByStacks : ByteArray := prog_2_method_24_code
def yX0_weightByStacks : MethodName := ⟨RX0, "weightByStacks", "(I)I"⟩
abbrev cX0_weightByIds : ByteArray := prog_2_method_25_code
def yX0_weightByIds : MethodName := ⟨RX0, "weightByIds", "(I)I"⟩
abbrev cX0_isAbove : ByteArray := prog_2_method_26_code
def yX0_isAbove : MethodName := ⟨RX0, "isAbove", "(II)Z"⟩
abbrev cX0_countAbove : ByteArray := prog_2_method_27_code
def yX0_countAbove : MethodName := ⟨RX0, "countAbove", "(I)I"⟩
abbrev cX0_digOnCopy : ByteArray := prog_2_method_28_code
def yX0_digOnCopy : MethodName := ⟨RX0, "digOnCopy", "(I)I"⟩
abbrev cX0_copyStack : ByteArray := prog_2_method_29_code
def yX0_copyStack : MethodName := ⟨RX0, "copyStack", "(I)I"⟩
abbrev cX0_digsAgree : ByteArray := prog_2_method_30_code
def yX0_digsAgree : MethodName := ⟨RX0, "digsAgree", "()Z"⟩
abbrev cX0_heaviestRowAbove : ByteArray := prog_2_method_31_code
def yX0_heaviestRowAbove : MethodName := ⟨RX0, "heaviestRowAbove", "(I)I"⟩
abbrev cX0_rowByWeight : ByteArray := prog_2_method_32_code
def yX0_rowByWeight : MethodName := ⟨RX0, "rowByWeight", "(I)I"⟩
abbrev cX0_rankOf : ByteArray := prog_2_method_33_code
def yX0_rankOf : MethodName := ⟨RX0, "rankOf", "(I)I"⟩
abbrev cX0_lowestStack : ByteArray := prog_2_method_34_code
def yX0_lowestStack : MethodName := ⟨RX0, "lowestStack", "(I)I"⟩
abbrev cX0_heavyOverLightPairs : ByteArray := prog_2_method_35_code
def yX0_heavyOverLightPairs : MethodName := ⟨RX0, "heavyOverLightPairs", "(I)I"⟩
abbrev cX0_countKeys : ByteArray := prog_2_method_36_code
def yX0_countKeys : MethodName := ⟨RX0, "countKeys", "()I"⟩
abbrev cX0_isFirstWithKey : ByteArray := prog_2_method_37_code
def yX0_isFirstWithKey : MethodName := ⟨RX0, "isFirstWithKey", "(I)Z"⟩
abbrev cX0_areTwins : ByteArray := prog_2_method_38_code
def yX0_areTwins : MethodName := ⟨RX0, "areTwins", "(II)Z"⟩
abbrev cX0_twinsByPairs : ByteArray := prog_2_method_39_code
def yX0_twinsByPairs : MethodName := ⟨RX0, "twinsByPairs", "()I"⟩
abbrev cX0_twinsInGroups : ByteArray := prog_2_method_40_code
def yX0_twinsInGroups : MethodName := ⟨RX0, "twinsInGroups", "()I"⟩
abbrev cX0_startsGroup : ByteArray := prog_2_method_41_code
def yX0_startsGroup : MethodName := ⟨RX0, "startsGroup", "(I)Z"⟩
abbrev cX0_groupSize : ByteArray := prog_2_method_42_code
def yX0_groupSize : MethodName := ⟨RX0, "groupSize", "(I)I"⟩
def RX1 : String := "ContainerTerminal$History"
def TX1 : u_T := fun k => match k with
  | 0 => ("ContainerTerminal$History", "states", "[LContainerTerminal$State;", true)
  | 1 => ("ContainerTerminal$History", "next", "I", false)
  | _ => ("ContainerTerminal$History", "count", "I", false)
def tyX1 : Nat → FieldType := fun k => match k with
  | 0 => .array (.object "ContainerTerminal$State")
  | 1 => .int
  | _ => .int
abbrev wsX10 : List Cond := u_ws RX1 TX1 3
theorem nmX1 : ∀ a, a < 3 → ∀ b, b < 3 → a ≠ b → (TX1 a).2.1 ≠ (TX1 b).2.1 := by decide +kernel
theorem tyX1_ok : ∀ k, k < 3 → parseFieldDescriptor (TX1 k).2.2.1 = some (tyX1 k) := by decide +kernel
abbrev cX1_init : ByteArray := prog_3_method_1_code
def yX1_init : MethodName := ⟨RX1, "<init>", "()V"⟩
abbrev cX1_push : ByteArray := prog_3_method_2_code
def yX1_push : MethodName := ⟨RX1, "push", "(LContainerTerminal$State;)V"⟩
abbrev cX1_popInto : ByteArray := prog_3_method_3_code
def yX1_popInto : MethodName := ⟨RX1, "popInto", "(LContainerTerminal$State;)V"⟩
abbrev cX1_stateAt : ByteArray := prog_3_method_4_code
def yX1_stateAt : MethodName := ⟨RX1, "stateAt", "(I)LContainerTerminal$State;"⟩
def RX2 : String := "ContainerTerminal$Input"
def TX2 : u_T := fun k => match k with
  | 0 => ("ContainerTerminal$Input", "text", "[C", true)
  | 1 => ("ContainerTerminal$Input", "length", "I", false)
  | _ => ("ContainerTerminal$Input", "position", "I", false)
def tyX2 : Nat → FieldType := fun k => match k with
  | 0 => .array .char
  | 1 => .int
  | _ => .int
abbrev wsX20 : List Cond := u_ws RX2 TX2 3
theorem nmX2 : ∀ a, a < 3 → ∀ b, b < 3 → a ≠ b → (TX2 a).2.1 ≠ (TX2 b).2.1 := by decide +kernel
theorem tyX2_ok : ∀ k, k < 3 → parseFieldDescriptor (TX2 k).2.2.1 = some (tyX2 k) := by decide +kernel
abbrev cX2_init : ByteArray := prog_4_method_1_code
def yX2_init : MethodName := ⟨RX2, "<init>", "()V"⟩
abbrev cX2_take : ByteArray := prog_4_method_2_code
def yX2_take : MethodName := ⟨RX2, "take", "(C)V"⟩
abbrev cX2_readInto : ByteArray := prog_4_method_3_code
def yX2_readInto : MethodName := ⟨RX2, "readInto", "(LContainerTerminal$Program;)Z"⟩
abbrev cX2_readCommand : ByteArray := prog_4_method_4_code
def yX2_readCommand : MethodName := ⟨RX2, "readCommand", "(LContainerTerminal$Program;)Z"⟩
abbrev cX2_readMoor : ByteArray := prog_4_method_5_code
def yX2_readMoor : MethodName := ⟨RX2, "readMoor", "(LContainerTerminal$Program;)Z"⟩
abbrev cX2_readMove : ByteArray := prog_4_method_6_code
def yX2_readMove : MethodName := ⟨RX2, "readMove", "(LContainerTerminal$Program;)Z"⟩
abbrev cX2_readStow : ByteArray := prog_4_method_7_code
def yX2_readStow : MethodName := ⟨RX2, "readStow", "(LContainerTerminal$Program;)Z"⟩
abbrev cX2_readClear : ByteArray := prog_4_method_8_code
def yX2_readClear : MethodName := ⟨RX2, "readClear", "(LContainerTerminal$Program;)Z"⟩
abbrev cX2_nextChar : ByteArray := prog_4_method_9_code
def yX2_nextChar : MethodName := ⟨RX2, "nextChar", "()C"⟩
abbrev cX2_read : ByteArray := prog_4_method_10_code
def yX2_read : MethodName := ⟨RX2, "read", "(C)Z"⟩
abbrev cX2_readWord : ByteArray := prog_4_method_11_code
def yX2_readWord : MethodName := ⟨RX2, "readWord", "(Ljava/lang/String;)Z"⟩
abbrev cX2_nextIsDigit : ByteArray := prog_4_method_12_code
def yX2_nextIsDigit : MethodName := ⟨RX2, "nextIsDigit", "()Z"⟩
abbrev cX2_readDigit : ByteArray := prog_4_method_13_code
def yX2_readDigit : MethodName := ⟨RX2, "readDigit", "(LContainerTerminal$Program;I)Z"⟩
abbrev cX2_readNumber : ByteArray := prog_4_method_14_code
def yX2_readNumber : MethodName := ⟨RX2, "readNumber", "(LContainerTerminal$Program;I)Z"⟩
def RX3 : String := "ContainerTerminal$Line"
def TX3 : u_T := fun k => match k with
  | 0 => ("ContainerTerminal$Line", "text", "[C", true)
  | _ => ("ContainerTerminal$Line", "length", "I", false)
def tyX3 : Nat → FieldType := fun k => match k with
  | 0 => .array .char
  | _ => .int
abbrev wsX30 : List Cond := u_ws RX3 TX3 2
theorem nmX3 : ∀ a, a < 2 → ∀ b, b < 2 → a ≠ b → (TX3 a).2.1 ≠ (TX3 b).2.1 := by decide +kernel
theorem tyX3_ok : ∀ k, k < 2 → parseFieldDescriptor (TX3 k).2.2.1 = some (tyX3 k) := by decide +kernel
abbrev cX3_init : ByteArray := prog_5_method_1_code
def yX3_init : MethodName := ⟨RX3, "<init>", "()V"⟩
abbrev cX3_writeStack : ByteArray := prog_5_method_2_code
def yX3_writeStack : MethodName := ⟨RX3, "writeStack", "(LContainerTerminal$Cargo;I)V"⟩
abbrev cX3_writeBerth : ByteArray := prog_5_method_3_code
def yX3_writeBerth : MethodName := ⟨RX3, "writeBerth", "(LContainerTerminal$State;I)V"⟩
abbrev cX3_putPart : ByteArray := prog_5_method_4_code
def yX3_putPart : MethodName := ⟨RX3, "putPart", "(CI)V"⟩
abbrev cX3_hasIndex : ByteArray := prog_5_method_5_code
def yX3_hasIndex : MethodName := ⟨RX3, "hasIndex", "(I)Z"⟩
abbrev cX3_put : ByteArray := prog_5_method_6_code
def yX3_put : MethodName := ⟨RX3, "put", "(C)V"⟩
abbrev cX3_putNumber : ByteArray := prog_5_method_7_code
def yX3_putNumber : MethodName := ⟨RX3, "putNumber", "(I)V"⟩
def RX4 : String := "ContainerTerminal$Program"
def TX4 : u_T := fun k => match k with
  | 0 => ("ContainerTerminal$Program", "kinds", "[I", true)
  | 1 => ("ContainerTerminal$Program", "arguments", "[I", true)
  | _ => ("ContainerTerminal$Program", "count", "I", false)
def tyX4 : Nat → FieldType := fun k => match k with
  | 0 => .array .int
  | 1 => .array .int
  | _ => .int
abbrev wsX40 : List Cond := u_ws RX4 TX4 3
theorem nmX4 : ∀ a, a < 3 → ∀ b, b < 3 → a ≠ b → (TX4 a).2.1 ≠ (TX4 b).2.1 := by decide +kernel
theorem tyX4_ok : ∀ k, k < 3 → parseFieldDescriptor (TX4 k).2.2.1 = some (tyX4 k) := by decide +kernel
abbrev cX4_init : ByteArray := prog_6_method_1_code
def yX4_init : MethodName := ⟨RX4, "<init>", "()V"⟩
abbrev cX4_begin : ByteArray := prog_6_method_2_code
def yX4_begin : MethodName := ⟨RX4, "begin", "(I)V"⟩
abbrev cX4_keep : ByteArray := prog_6_method_3_code
def yX4_keep : MethodName := ⟨RX4, "keep", "(II)V"⟩
abbrev cX4_isRow : ByteArray := prog_6_method_4_code
def yX4_isRow : MethodName := ⟨RX4, "isRow", "(I)Z"⟩
abbrev cX4_isPlace : ByteArray := prog_6_method_5_code
def yX4_isPlace : MethodName := ⟨RX4, "isPlace", "(I)Z"⟩
abbrev cX4_kind : ByteArray := prog_6_method_6_code
def yX4_kind : MethodName := ⟨RX4, "kind", "(I)I"⟩
abbrev cX4_given : ByteArray := prog_6_method_7_code
def yX4_given : MethodName := ⟨RX4, "given", "(II)I"⟩
abbrev cX4_firstFailureOn : ByteArray := prog_6_method_8_code
def yX4_firstFailureOn : MethodName := ⟨RX4, "firstFailureOn", "(LContainerTerminal$State;)I"⟩
abbrev cX4_faultOf : ByteArray := prog_6_method_9_code
def yX4_faultOf : MethodName := ⟨RX4, "faultOf", "(LContainerTerminal$State;I)I"⟩
abbrev cX4_carryOut : ByteArray := prog_6_method_10_code
def yX4_carryOut : MethodName := ⟨RX4, "carryOut", "(LContainerTerminal$State;I)V"⟩
def RX5 : String := "ContainerTerminal$State"
def TX5 : u_T := fun k => match k with
  | 0 => ("ContainerTerminal$State", "cargo", "LContainerTerminal$Cargo;", true)
  | 1 => ("ContainerTerminal$State", "draughts", "[I", true)
  | 2 => ("ContainerTerminal$State", "dueHours", "[I", true)
  | 3 => ("ContainerTerminal$State", "wrongs", "[I", true)
  | 4 => ("ContainerTerminal$State", "locks", "[I", true)
  | 5 => ("ContainerTerminal$State", "hour", "I", false)
  | 6 => ("ContainerTerminal$State", "fees", "I", false)
  | 7 => ("ContainerTerminal$State", "nextId", "I", false)
  | 8 => ("ContainerTerminal$State", "cleared", "I", false)
  | 9 => ("ContainerTerminal$State", "delivered", "I", false)
  | _ => ("ContainerTerminal$State", "wrong", "I", false)
def tyX5 : Nat → FieldType := fun k => match k with
  | 0 => .object "ContainerTerminal$Cargo"
  | 1 => .array .int
  | 2 => .array .int
  | 3 => .array .int
  | 4 => .array .int
  | 5 => .int
  | 6 => .int
  | 7 => .int
  | 8 => .int
  | 9 => .int
  | _ => .int
abbrev wsX50 : List Cond := u_ws RX5 TX5 11
theorem nmX5 : ∀ a, a < 11 → ∀ b, b < 11 → a ≠ b → (TX5 a).2.1 ≠ (TX5 b).2.1 := by decide +kernel
theorem tyX5_ok : ∀ k, k < 11 → parseFieldDescriptor (TX5 k).2.2.1 = some (tyX5 k) := by decide +kernel
abbrev cX5_init : ByteArray := prog_7_method_1_code
def yX5_init : MethodName := ⟨RX5, "<init>", "()V"⟩
abbrev cX5_copyFrom : ByteArray := prog_7_method_2_code
def yX5_copyFrom : MethodName := ⟨RX5, "copyFrom", "(LContainerTerminal$State;)V"⟩
abbrev cX5_hasShip : ByteArray := prog_7_method_3_code
def yX5_hasShip : MethodName := ⟨RX5, "hasShip", "(I)Z"⟩
abbrev cX5_ships : ByteArray := prog_7_method_4_code
def yX5_ships : MethodName := ⟨RX5, "ships", "()I"⟩
abbrev cX5_mooringFault : ByteArray := prog_7_method_5_code
def yX5_mooringFault : MethodName := ⟨RX5, "mooringFault", "(III)I"⟩
abbrev cX5_putShip : ByteArray := prog_7_method_6_code
def yX5_putShip : MethodName := ⟨RX5, "putShip", "(III)V"⟩
abbrev cX5_stowingFault : ByteArray := prog_7_method_7_code
def yX5_stowingFault : MethodName := ⟨RX5, "stowingFault", "(IIII)I"⟩
abbrev cX5_putContainer : ByteArray := prog_7_method_8_code
def yX5_putContainer : MethodName := ⟨RX5, "putContainer", "(IIII)I"⟩
abbrev cX5_clearingFault : ByteArray := prog_7_method_9_code
def yX5_clearingFault : MethodName := ⟨RX5, "clearingFault", "(III)I"⟩
abbrev cX5_tryAnswer : ByteArray := prog_7_method_10_code
def yX5_tryAnswer : MethodName := ⟨RX5, "tryAnswer", "(III)Z"⟩
abbrev cX5_countWrongAnswer : ByteArray := prog_7_method_11_code
def yX5_countWrongAnswer : MethodName := ⟨RX5, "countWrongAnswer", "(I)V"⟩
abbrev cX5_movingFault : ByteArray := prog_7_method_12_code
def yX5_movingFault : MethodName := ⟨RX5, "movingFault", "(III)I"⟩
abbrev cX5_shiftTop : ByteArray := prog_7_method_13_code
def yX5_shiftTop : MethodName := ⟨RX5, "shiftTop", "(III)I"⟩
abbrev cX5_deliveringFault : ByteArray := prog_7_method_14_code
def yX5_deliveringFault : MethodName := ⟨RX5, "deliveringFault", "(I)I"⟩
abbrev cX5_handOver : ByteArray := prog_7_method_15_code
def yX5_handOver : MethodName := ⟨RX5, "handOver", "(I)V"⟩
abbrev cX5_leavingFault : ByteArray := prog_7_method_16_code
def yX5_leavingFault : MethodName := ⟨RX5, "leavingFault", "(I)I"⟩
abbrev cX5_takeShip : ByteArray := prog_7_method_17_code
def yX5_takeShip : MethodName := ⟨RX5, "takeShip", "(I)V"⟩
abbrev cX5_letHoursPass : ByteArray := prog_7_method_18_code
def yX5_letHoursPass : MethodName := ⟨RX5, "letHoursPass", "(I)I"⟩
abbrev cX5_letHourPass : ByteArray := prog_7_method_19_code
def yX5_letHourPass : MethodName := ⟨RX5, "letHourPass", "()I"⟩
abbrev cX5_floatsAfter : ByteArray := prog_7_method_20_code
def yX5_floatsAfter : MethodName := ⟨RX5, "floatsAfter", "(II)Z"⟩
abbrev cX5_waitHourByHour : ByteArray := prog_7_method_21_code
def yX5_waitHourByHour : MethodName := ⟨RX5, "waitHourByHour", "(I)I"⟩
abbrev cX5_waitByTide : ByteArray := prog_7_method_22_code
def yX5_waitByTide : MethodName := ⟨RX5, "waitByTide", "(I)I"⟩
abbrev cX5_urgentBerth : ByteArray := prog_7_method_23_code
def yX5_urgentBerth : MethodName := ⟨RX5, "urgentBerth", "()I"⟩
abbrev cX5_dueAt : ByteArray := prog_7_method_24_code
def yX5_dueAt : MethodName := ⟨RX5, "dueAt", "(I)I"⟩
abbrev cX5_isMoreUrgent : ByteArray := prog_7_method_25_code
def yX5_isMoreUrgent : MethodName := ⟨RX5, "isMoreUrgent", "(II)Z"⟩
abbrev cX5_shipsAgree : ByteArray := prog_7_method_26_code
def yX5_shipsAgree : MethodName := ⟨RX5, "shipsAgree", "()Z"⟩
def RX6 : String := "ContainerTerminal"
def TX6 : u_T := fun k => match k with
  | 0 => ("ContainerTerminal", "now", "LContainerTerminal$State;", true)
  | 1 => ("ContainerTerminal", "trial", "LContainerTerminal$State;", true)
  | 2 => ("ContainerTerminal", "saved", "LContainerTerminal$State;", true)
  | 3 => ("ContainerTerminal", "hasSaved", "Z", false)
  | 4 => ("ContainerTerminal", "history", "LContainerTerminal$History;", true)
  | 5 => ("ContainerTerminal", "program", "LContainerTerminal$Program;", true)
  | 6 => ("ContainerTerminal", "input", "LContainerTerminal$Input;", true)
  | 7 => ("ContainerTerminal", "line", "LContainerTerminal$Line;", true)
  | 8 => ("ContainerTerminal", "storedErrorPosition", "I", false)
  | _ => ("ContainerTerminal", "storedFailedCommand", "I", false)
def tyX6 : Nat → FieldType := fun k => match k with
  | 0 => .object "ContainerTerminal$State"
  | 1 => .object "ContainerTerminal$State"
  | 2 => .object "ContainerTerminal$State"
  | 3 => .boolean
  | 4 => .object "ContainerTerminal$History"
  | 5 => .object "ContainerTerminal$Program"
  | 6 => .object "ContainerTerminal$Input"
  | 7 => .object "ContainerTerminal$Line"
  | 8 => .int
  | _ => .int
abbrev wsX60 : List Cond := u_ws RX6 TX6 10
theorem nmX6 : ∀ a, a < 10 → ∀ b, b < 10 → a ≠ b → (TX6 a).2.1 ≠ (TX6 b).2.1 := by decide +kernel
theorem tyX6_ok : ∀ k, k < 10 → parseFieldDescriptor (TX6 k).2.2.1 = some (tyX6 k) := by decide +kernel
abbrev cX6_init : ByteArray := prog_1_method_1_code
def yX6_init : MethodName := ⟨RX6, "<init>", "()V"⟩
abbrev cX6_moor : ByteArray := prog_1_method_2_code
def yX6_moor : MethodName := ⟨RX6, "moor", "(III)I"⟩
abbrev cX6_stow : ByteArray := prog_1_method_3_code
def yX6_stow : MethodName := ⟨RX6, "stow", "(IIII)I"⟩
abbrev cX6_clear : ByteArray := prog_1_method_4_code
def yX6_clear : MethodName := ⟨RX6, "clear", "(III)Z"⟩
abbrev cX6_move : ByteArray := prog_1_method_5_code
def yX6_move : MethodName := ⟨RX6, "move", "(III)I"⟩
abbrev cX6_deliver : ByteArray := prog_1_method_6_code
def yX6_deliver : MethodName := ⟨RX6, "deliver", "(I)I"⟩
abbrev cX6_leave : ByteArray := prog_1_method_7_code
def yX6_leave : MethodName := ⟨RX6, "leave", "(I)I"⟩
abbrev cX6_pass : ByteArray := prog_1_method_8_code
def yX6_pass : MethodName := ⟨RX6, "pass", "(I)I"⟩
abbrev cX6_hour : ByteArray := prog_1_method_9_code
def yX6_hour : MethodName := ⟨RX6, "hour", "()I"⟩
abbrev cX6_tide : ByteArray := prog_1_method_10_code
def yX6_tide : MethodName := ⟨RX6, "tide", "()I"⟩
abbrev cX6_shipCount : ByteArray := prog_1_method_11_code
def yX6_shipCount : MethodName := ⟨RX6, "shipCount", "()I"⟩
abbrev cX6_isMoored : ByteArray := prog_1_method_12_code
def yX6_isMoored : MethodName := ⟨RX6, "isMoored", "(I)Z"⟩
abbrev cX6_draught : ByteArray := prog_1_method_13_code
def yX6_draught : MethodName := ⟨RX6, "draught", "(I)I"⟩
abbrev cX6_dueHour : ByteArray := prog_1_method_14_code
def yX6_dueHour : MethodName := ⟨RX6, "dueHour", "(I)I"⟩
abbrev cX6_floats : ByteArray := prog_1_method_15_code
def yX6_floats : MethodName := ⟨RX6, "floats", "(I)Z"⟩
abbrev cX6_hoursUntilFloating : ByteArray := prog_1_method_16_code
def yX6_hoursUntilFloating : MethodName := ⟨RX6, "hoursUntilFloating", "(I)I"⟩
abbrev cX6_hoursUntilFloatingByTide : ByteArray := prog_1_method_17_code
def yX6_hoursUntilFloatingByTide : MethodName := ⟨RX6, "hoursUntilFloatingByTide", "(I)I"⟩
abbrev cX6_mostUrgent : ByteArray := prog_1_method_18_code
def yX6_mostUrgent : MethodName := ⟨RX6, "mostUrgent", "()I"⟩
abbrev cX6_canLeave : ByteArray := prog_1_method_19_code
def yX6_canLeave : MethodName := ⟨RX6, "canLeave", "(I)Z"⟩
abbrev cX6_lockedHours : ByteArray := prog_1_method_20_code
def yX6_lockedHours : MethodName := ⟨RX6, "lockedHours", "(I)I"⟩
abbrev cX6_wrongAnswers : ByteArray := prog_1_method_21_code
def yX6_wrongAnswers : MethodName := ⟨RX6, "wrongAnswers", "(I)I"⟩
abbrev cX6_stackHeight : ByteArray := prog_1_method_22_code
def yX6_stackHeight : MethodName := ⟨RX6, "stackHeight", "(II)I"⟩
abbrev cX6_containerAt : ByteArray := prog_1_method_23_code
def yX6_containerAt : MethodName := ⟨RX6, "containerAt", "(III)I"⟩
abbrev cX6_topOf : ByteArray := prog_1_method_24_code
def yX6_topOf : MethodName := ⟨RX6, "topOf", "(II)I"⟩
abbrev cX6_containersOn : ByteArray := prog_1_method_25_code
def yX6_containersOn : MethodName := ⟨RX6, "containersOn", "(I)I"⟩
abbrev cX6_weightOn : ByteArray := prog_1_method_26_code
def yX6_weightOn : MethodName := ⟨RX6, "weightOn", "(I)I"⟩
abbrev cX6_weightOnByContainers : ByteArray := prog_1_method_27_code
def yX6_weightOnByContainers : MethodName := ⟨RX6, "weightOnByContainers", "(I)I"⟩
abbrev cX6_isInYard : ByteArray := prog_1_method_29_code
def yX6_isInYard : MethodName := ⟨RX6, "isInYard", "(I)Z"⟩
abbrev cX6_weightOf : ByteArray := prog_1_method_30_code
def yX6_weightOf : MethodName := ⟨RX6, "weightOf", "(I)I"⟩
abbrev cX6_keyOf : ByteArray := prog_1_method_31_code
def yX6_keyOf : MethodName := ⟨RX6, "keyOf", "(I)I"⟩
abbrev cX6_answerOf : ByteArray := prog_1_method_32_code
def yX6_answerOf : MethodName := ⟨RX6, "answerOf", "(I)I"⟩
abbrev cX6_berthOf : ByteArray := prog_1_method_33_code
def yX6_berthOf : MethodName := ⟨RX6, "berthOf", "(I)I"⟩
abbrev cX6_movesToReach : ByteArray := prog_1_method_36_code
def yX6_movesToReach : MethodName := ⟨RX6, "movesToReach", "(I)I"⟩
abbrev cX6_movesToReachByCopy : ByteArray := prog_1_method_37_code
def yX6_movesToReachByCopy : MethodName := ⟨RX6, "movesToReachByCopy", "(I)I"⟩
abbrev cX6_heaviestAbove : ByteArray := prog_1_method_38_code
def yX6_heaviestAbove : MethodName := ⟨RX6, "heaviestAbove", "(I)I"⟩
abbrev cX6_containerByWeight : ByteArray := prog_1_method_39_code
def yX6_containerByWeight : MethodName := ⟨RX6, "containerByWeight", "(I)I"⟩
abbrev cX6_emptiestStack : ByteArray := prog_1_method_40_code
def yX6_emptiestStack : MethodName := ⟨RX6, "emptiestStack", "(I)I"⟩
abbrev cX6_heavyOverLight : ByteArray := prog_1_method_41_code
def yX6_heavyOverLight : MethodName := ⟨RX6, "heavyOverLight", "(II)I"⟩
abbrev cX6_differentKeys : ByteArray := prog_1_method_42_code
def yX6_differentKeys : MethodName := ⟨RX6, "differentKeys", "()I"⟩
abbrev cX6_keyTwins : ByteArray := prog_1_method_43_code
def yX6_keyTwins : MethodName := ⟨RX6, "keyTwins", "()I"⟩
abbrev cX6_keyTwinsByGroups : ByteArray := prog_1_method_44_code
def yX6_keyTwinsByGroups : MethodName := ⟨RX6, "keyTwinsByGroups", "()I"⟩
abbrev cX6_yardCount : ByteArray := prog_1_method_45_code
def yX6_yardCount : MethodName := ⟨RX6, "yardCount", "()I"⟩
abbrev cX6_yardAt : ByteArray := prog_1_method_46_code
def yX6_yardAt : MethodName := ⟨RX6, "yardAt", "(I)I"⟩
abbrev cX6_feesAfter : ByteArray := prog_1_method_47_code
def yX6_feesAfter : MethodName := ⟨RX6, "feesAfter", "(I)I"⟩
abbrev cX6_fees : ByteArray := prog_1_method_48_code
def yX6_fees : MethodName := ⟨RX6, "fees", "()I"⟩
abbrev cX6_clearedTotal : ByteArray := prog_1_method_49_code
def yX6_clearedTotal : MethodName := ⟨RX6, "clearedTotal", "()I"⟩
abbrev cX6_deliveredTotal : ByteArray := prog_1_method_50_code
def yX6_deliveredTotal : MethodName := ⟨RX6, "deliveredTotal", "()I"⟩
abbrev cX6_wrongTotal : ByteArray := prog_1_method_51_code
def yX6_wrongTotal : MethodName := ⟨RX6, "wrongTotal", "()I"⟩
abbrev cX6_meanHeight : ByteArray := prog_1_method_52_code
def yX6_meanHeight : MethodName := ⟨RX6, "meanHeight", "()D"⟩
abbrev cX6_rightShare : ByteArray := prog_1_method_53_code
def yX6_rightShare : MethodName := ⟨RX6, "rightShare", "()F"⟩
abbrev cX6_isConsistent : ByteArray := prog_1_method_54_code
def yX6_isConsistent : MethodName := ⟨RX6, "isConsistent", "()Z"⟩
abbrev cX6_formatStack : ByteArray := prog_1_method_55_code
def yX6_formatStack : MethodName := ⟨RX6, "formatStack", "(II)I"⟩
abbrev cX6_formatBerth : ByteArray := prog_1_method_56_code
def yX6_formatBerth : MethodName := ⟨RX6, "formatBerth", "(I)I"⟩
abbrev cX6_lineChar : ByteArray := prog_1_method_57_code
def yX6_lineChar : MethodName := ⟨RX6, "lineChar", "(I)C"⟩
abbrev cX6_append : ByteArray := prog_1_method_58_code
def yX6_append : MethodName := ⟨RX6, "append", "(C)I"⟩
abbrev cX6_run : ByteArray := prog_1_method_59_code
def yX6_run : MethodName := ⟨RX6, "run", "()I"⟩
abbrev cX6_errorPosition : ByteArray := prog_1_method_60_code
def yX6_errorPosition : MethodName := ⟨RX6, "errorPosition", "()I"⟩
abbrev cX6_failedCommand : ByteArray := prog_1_method_61_code
def yX6_failedCommand : MethodName := ⟨RX6, "failedCommand", "()I"⟩
abbrev cX6_undo : ByteArray := prog_1_method_63_code
def yX6_undo : MethodName := ⟨RX6, "undo", "()I"⟩
abbrev cX6_save : ByteArray := prog_1_method_64_code
def yX6_save : MethodName := ⟨RX6, "save", "()I"⟩
abbrev cX6_restore : ByteArray := prog_1_method_65_code
def yX6_restore : MethodName := ⟨RX6, "restore", "()I"⟩
abbrev cX6_raise : ByteArray := prog_1_method_66_code
def yX6_raise : MethodName := ⟨RX6, "raise", "(I)V"⟩
abbrev cX6_requireBerth : ByteArray := prog_1_method_67_code
def yX6_requireBerth : MethodName := ⟨RX6, "requireBerth", "(I)V"⟩
abbrev cX6_requireShip : ByteArray := prog_1_method_68_code
def yX6_requireShip : MethodName := ⟨RX6, "requireShip", "(I)V"⟩
abbrev cX6_requireStack : ByteArray := prog_1_method_69_code
def yX6_requireStack : MethodName := ⟨RX6, "requireStack", "(II)V"⟩
abbrev cX6_found : ByteArray := prog_1_method_70_code
def yX6_found : MethodName := ⟨RX6, "found", "(I)I"⟩
abbrev cX6_isBerth : ByteArray := prog_1_method_71_code
def yX6_isBerth : MethodName := ⟨RX6, "isBerth", "(I)Z"⟩
abbrev cX6_isStack : ByteArray := prog_1_method_72_code
def yX6_isStack : MethodName := ⟨RX6, "isStack", "(I)Z"⟩
abbrev cX6_pileOf : ByteArray := prog_1_method_73_code
def yX6_pileOf : MethodName := ⟨RX6, "pileOf", "(II)I"⟩
abbrev cX6_passingFault : ByteArray := prog_1_method_74_code
def yX6_passingFault : MethodName := ⟨RX6, "passingFault", "(I)I"⟩
abbrev cX6_tideAt : ByteArray := prog_1_method_75_code
def yX6_tideAt : MethodName := ⟨RX6, "tideAt", "(I)I"⟩
def RX7 : String := "ContainerTerminalModel"
def TX7 : u_T := fun k => match k with
  | _ => ("", "", "", false)
def tyX7 : Nat → FieldType := fun k => match k with
  | _ => .int
abbrev wsX70 : List Cond := u_ws RX7 TX7 0
theorem nmX7 : ∀ a, a < 0 → ∀ b, b < 0 → a ≠ b → (TX7 a).2.1 ≠ (TX7 b).2.1 := by decide +kernel
theorem tyX7_ok : ∀ k, k < 0 → parseFieldDescriptor (TX7 k).2.2.1 = some (tyX7 k) := by decide +kernel
def RJx145de : String := "java/io/Serializable"
def TJx145de : u_T := fun k => match k with
  | _ => ("", "", "", false)
def tyJx145de : Nat → FieldType := fun k => match k with
  | _ => .int
abbrev wsJx145de0 : List Cond := u_ws RJx145de TJx145de 0
theorem nmJx145de : ∀ a, a < 0 → ∀ b, b < 0 → a ≠ b → (TJx145de a).2.1 ≠ (TJx145de b).2.1 := by decide +kernel
theorem tyJx145de_ok : ∀ k, k < 0 → parseFieldDescriptor (TJx145de k).2.2.1 = some (tyJx145de k) := by decide +kernel
def RJ5 : String := "java/lang/AbstractStringBuilder"
def TJ5 : u_T := fun k => match k with
  | _ => ("", "", "", false)
def tyJ5 : Nat → FieldType := fun k => match k with
  | _ => .int
abbrev wsJ50 : List Cond := u_ws RJ5 TJ5 0
theorem nmJ5 : ∀ a, a < 0 → ∀ b, b < 0 → a ≠ b → (TJ5 a).2.1 ≠ (TJ5 b).2.1 := by decide +kernel
theorem tyJ5_ok : ∀ k, k < 0 → parseFieldDescriptor (TJ5 k).2.2.1 = some (tyJ5 k) := by decide +kernel
abbrev cJ5_init_d00df : ByteArray := prog_11_method_2_code
def yJ5_init_d00df : MethodName := ⟨RJ5, "<init>", "(I)V"⟩
abbrev cJ5_length_8abf5 : ByteArray := prog_11_method_6_code
def yJ5_length_8abf5 : MethodName := ⟨RJ5, "length", "()I"⟩
abbrev cJ5_ensureCapacityInternal_d00df : ByteArray := prog_11_method_9_code
def yJ5_ensureCapacityInternal_d00df : MethodName := ⟨RJ5, "ensureCapacityInternal", "(I)V"⟩
abbrev cJ5_newCapacity_0f7a4 : ByteArray := prog_11_method_10_code
def yJ5_newCapacity_0f7a4 : MethodName := ⟨RJ5, "newCapacity", "(I)I"⟩
abbrev cJ5_inflate_da8c8 : ByteArray := prog_11_method_11_code
def yJ5_inflate_da8c8 : MethodName := ⟨RJ5, "inflate", "()V"⟩
abbrev cJ5_append_cf1ce : ByteArray := prog_11_method_22_code
def yJ5_append_cf1ce : MethodName := ⟨RJ5, "append", "(Ljava/lang/String;)Ljava/lang/AbstractStringBuilder;"⟩
abbrev cJ5_appendNull_278bc : ByteArray := prog_11_method_26_code
def yJ5_appendNull_278bc : MethodName := ⟨RJ5, "appendNull", "()Ljava/lang/AbstractStringBuilder;"⟩
abbrev cJ5_append_c97b9 : ByteArray := prog_11_method_32_code
def yJ5_append_c97b9 : MethodName := ⟨RJ5, "append", "(I)Ljava/lang/AbstractStringBuilder;"⟩
abbrev cJ5_getValue_6d5f1 : ByteArray := prog_11_method_64_code
def yJ5_getValue_6d5f1 : MethodName := ⟨RJ5, "getValue", "()[B"⟩
abbrev cJ5_isLatin1_aae02 : ByteArray := prog_11_method_68_code
def yJ5_isLatin1_aae02 : MethodName := ⟨RJ5, "isLatin1", "()Z"⟩
abbrev cJ5_inflateIfNeededFor_a7421 : ByteArray := prog_11_method_71_code
def yJ5_inflateIfNeededFor_a7421 : MethodName := ⟨RJ5, "inflateIfNeededFor", "(Ljava/lang/String;)V"⟩
abbrev cJ5_putStringAt_47b60 : ByteArray := prog_11_method_73_code
def yJ5_putStringAt_47b60 : MethodName := ⟨RJ5, "putStringAt", "(ILjava/lang/String;)V"⟩
def RJx2cfe8 : String := "java/lang/Appendable"
def TJx2cfe8 : u_T := fun k => match k with
  | _ => ("", "", "", false)
def tyJx2cfe8 : Nat → FieldType := fun k => match k with
  | _ => .int
abbrev wsJx2cfe80 : List Cond := u_ws RJx2cfe8 TJx2cfe8 0
theorem nmJx2cfe8 : ∀ a, a < 0 → ∀ b, b < 0 → a ≠ b → (TJx2cfe8 a).2.1 ≠ (TJx2cfe8 b).2.1 := by decide +kernel
theorem tyJx2cfe8_ok : ∀ k, k < 0 → parseFieldDescriptor (TJx2cfe8 k).2.2.1 = some (tyJx2cfe8 k) := by decide +kernel
def RJx00060 : String := "java/lang/ArrayIndexOutOfBoundsException"
def TJx00060 : u_T := fun k => match k with
  | 0 => ("java/lang/Throwable", "backtrace", "Ljava/lang/Object;", false)
  | 1 => ("java/lang/Throwable", "detailMessage", "Ljava/lang/String;", false)
  | 2 => ("java/lang/Throwable", "cause", "Ljava/lang/Throwable;", false)
  | 3 => ("java/lang/Throwable", "stackTrace", "[Ljava/lang/StackTraceElement;", false)
  | 4 => ("java/lang/Throwable", "depth", "I", false)
  | _ => ("java/lang/Throwable", "suppressedExceptions", "Ljava/util/List;", false)
def tyJx00060 : Nat → FieldType := fun k => match k with
  | 0 => .object "java/lang/Object"
  | 1 => .object "java/lang/String"
  | 2 => .object "java/lang/Throwable"
  | 3 => .array (.object "java/lang/StackTraceElement")
  | 4 => .int
  | _ => .object "java/util/List"
abbrev wsJx000600 : List Cond := u_ws RJx00060 TJx00060 6
theorem nmJx00060 : ∀ a, a < 6 → ∀ b, b < 6 → a ≠ b → (TJx00060 a).2.1 ≠ (TJx00060 b).2.1 := by decide +kernel
theorem tyJx00060_ok : ∀ k, k < 6 → parseFieldDescriptor (TJx00060 k).2.2.1 = some (tyJx00060 k) := by decide +kernel
abbrev cJx00060_init_a7421 : ByteArray := prog_14_method_2_code
def yJx00060_init_a7421 : MethodName := ⟨RJx00060, "<init>", "(Ljava/lang/String;)V"⟩
def RJx9f9b0 : String := "java/lang/CharSequence"
def TJx9f9b0 : u_T := fun k => match k with
  | _ => ("", "", "", false)
def tyJx9f9b0 : Nat → FieldType := fun k => match k with
  | _ => .int
abbrev wsJx9f9b00 : List Cond := u_ws RJx9f9b0 TJx9f9b0 0
theorem nmJx9f9b0 : ∀ a, a < 0 → ∀ b, b < 0 → a ≠ b → (TJx9f9b0 a).2.1 ≠ (TJx9f9b0 b).2.1 := by decide +kernel
theorem tyJx9f9b0_ok : ∀ k, k < 0 → parseFieldDescriptor (TJx9f9b0 k).2.2.1 = some (tyJx9f9b0 k) := by decide +kernel
def RJx8e188 : String := "java/lang/Cloneable"
def TJx8e188 : u_T := fun k => match k with
  | _ => ("", "", "", false)
def tyJx8e188 : Nat → FieldType := fun k => match k with
  | _ => .int
abbrev wsJx8e1880 : List Cond := u_ws RJx8e188 TJx8e188 0
theorem nmJx8e188 : ∀ a, a < 0 → ∀ b, b < 0 → a ≠ b → (TJx8e188 a).2.1 ≠ (TJx8e188 b).2.1 := by decide +kernel
theorem tyJx8e188_ok : ∀ k, k < 0 → parseFieldDescriptor (TJx8e188 k).2.2.1 = some (tyJx8e188 k) := by decide +kernel
def RJxb160c : String := "java/lang/Comparable"
def TJxb160c : u_T := fun k => match k with
  | _ => ("", "", "", false)
def tyJxb160c : Nat → FieldType := fun k => match k with
  | _ => .int
abbrev wsJxb160c0 : List Cond := u_ws RJxb160c TJxb160c 0
theorem nmJxb160c : ∀ a, a < 0 → ∀ b, b < 0 → a ≠ b → (TJxb160c a).2.1 ≠ (TJxb160c b).2.1 := by decide +kernel
theorem tyJxb160c_ok : ∀ k, k < 0 → parseFieldDescriptor (TJxb160c k).2.2.1 = some (tyJxb160c k) := by decide +kernel
def RJxabbfe : String := "java/lang/Integer$IntegerCache"
def TJxabbfe : u_T := fun k => match k with
  | _ => ("", "", "", false)
def tyJxabbfe : Nat → FieldType := fun k => match k with
  | _ => .int
abbrev wsJxabbfe0 : List Cond := u_ws RJxabbfe TJxabbfe 0
theorem nmJxabbfe : ∀ a, a < 0 → ∀ b, b < 0 → a ≠ b → (TJxabbfe a).2.1 ≠ (TJxabbfe b).2.1 := by decide +kernel
theorem tyJxabbfe_ok : ∀ k, k < 0 → parseFieldDescriptor (TJxabbfe k).2.2.1 = some (tyJxabbfe k) := by decide +kernel
def RJ6 : String := "java/lang/Integer"
def TJ6 : u_T := fun k => match k with
  | _ => ("java/lang/Integer", "value", "I", true)
def tyJ6 : Nat → FieldType := fun k => match k with
  | _ => .int
abbrev wsJ60 : List Cond := u_ws RJ6 TJ6 1
theorem nmJ6 : ∀ a, a < 1 → ∀ b, b < 1 → a ≠ b → (TJ6 a).2.1 ≠ (TJ6 b).2.1 := by decide +kernel
theorem tyJ6_ok : ∀ k, k < 1 → parseFieldDescriptor (TJ6 k).2.2.1 = some (tyJ6 k) := by decide +kernel
abbrev cJ6_getChars_ba4f3 : ByteArray := prog_22_method_12_code
def yJ6_getChars_ba4f3 : MethodName := ⟨RJ6, "getChars", "(II[B)I"⟩
abbrev cJ6_stringSize_0f7a4 : ByteArray := prog_22_method_13_code
def yJ6_stringSize_0f7a4 : MethodName := ⟨RJ6, "stringSize", "(I)I"⟩
abbrev cJ6_valueOf_2dffe : ByteArray := prog_22_method_22_code
def yJ6_valueOf_2dffe : MethodName := ⟨RJ6, "valueOf", "(I)Ljava/lang/Integer;"⟩
abbrev cJ6_init_d00df : ByteArray := prog_22_method_23_code
def yJ6_init_d00df : MethodName := ⟨RJ6, "<init>", "(I)V"⟩
abbrev cJ6_intValue_8abf5 : ByteArray := prog_22_method_27_code
def yJ6_intValue_8abf5 : MethodName := ⟨RJ6, "intValue", "()I"⟩
def RJxab1ab : String := "java/lang/Iterable"
def TJxab1ab : u_T := fun k => match k with
  | _ => ("", "", "", false)
def tyJxab1ab : Nat → FieldType := fun k => match k with
  | _ => .int
abbrev wsJxab1ab0 : List Cond := u_ws RJxab1ab TJxab1ab 0
theorem nmJxab1ab : ∀ a, a < 0 → ∀ b, b < 0 → a ≠ b → (TJxab1ab a).2.1 ≠ (TJxab1ab b).2.1 := by decide +kernel
theorem tyJxab1ab_ok : ∀ k, k < 0 → parseFieldDescriptor (TJxab1ab k).2.2.1 = some (tyJxab1ab k) := by decide +kernel
def RJ9 : String := "java/lang/Math"
def TJ9 : u_T := fun k => match k with
  | _ => ("", "", "", false)
def tyJ9 : Nat → FieldType := fun k => match k with
  | _ => .int
abbrev wsJ90 : List Cond := u_ws RJ9 TJ9 0
theorem nmJ9 : ∀ a, a < 0 → ∀ b, b < 0 → a ≠ b → (TJ9 a).2.1 ≠ (TJ9 b).2.1 := by decide +kernel
theorem tyJ9_ok : ∀ k, k < 0 → parseFieldDescriptor (TJ9 k).2.2.1 = some (tyJ9 k) := by decide +kernel
abbrev cJ9_floorMod_7cf53 : ByteArray := prog_25_method_50_code
def yJ9_floorMod_7cf53 : MethodName := ⟨RJ9, "floorMod", "(II)I"⟩
abbrev cJ9_max_7cf53 : ByteArray := prog_25_method_65_code
def yJ9_max_7cf53 : MethodName := ⟨RJ9, "max", "(II)I"⟩
abbrev cJ9_min_7cf53 : ByteArray := prog_25_method_69_code
def yJ9_min_7cf53 : MethodName := ⟨RJ9, "min", "(II)I"⟩
def RJxd2413 : String := "java/lang/Number"
def TJxd2413 : u_T := fun k => match k with
  | _ => ("", "", "", false)
def tyJxd2413 : Nat → FieldType := fun k => match k with
  | _ => .int
abbrev wsJxd24130 : List Cond := u_ws RJxd2413 TJxd2413 0
theorem nmJxd2413 : ∀ a, a < 0 → ∀ b, b < 0 → a ≠ b → (TJxd2413 a).2.1 ≠ (TJxd2413 b).2.1 := by decide +kernel
theorem tyJxd2413_ok : ∀ k, k < 0 → parseFieldDescriptor (TJxd2413 k).2.2.1 = some (tyJxd2413 k) := by decide +kernel
abbrev cJxd2413_init_da8c8 : ByteArray := prog_26_method_1_code
def yJxd2413_init_da8c8 : MethodName := ⟨RJxd2413, "<init>", "()V"⟩
def RJ0 : String := "java/lang/String"
def TJ0 : u_T := fun k => match k with
  | 0 => ("java/lang/String", "value", "[B", true)
  | 1 => ("java/lang/String", "coder", "B", true)
  | 2 => ("java/lang/String", "hash", "I", false)
  | _ => ("java/lang/String", "hashIsZero", "Z", false)
def tyJ0 : Nat → FieldType := fun k => match k with
  | 0 => .array .byte
  | 1 => .byte
  | 2 => .int
  | _ => .boolean
abbrev wsJ00 : List Cond := u_ws RJ0 TJ0 4
theorem nmJ0 : ∀ a, a < 4 → ∀ b, b < 4 → a ≠ b → (TJ0 a).2.1 ≠ (TJ0 b).2.1 := by decide +kernel
theorem tyJ0_ok : ∀ k, k < 4 → parseFieldDescriptor (TJ0 k).2.2.1 = some (tyJ0 k) := by decide +kernel
abbrev cJ0_init_81219 : ByteArray := prog_28_method_53_code
def yJ0_init_81219 : MethodName := ⟨RJ0, "<init>", "(Ljava/lang/StringBuilder;)V"⟩
abbrev cJ0_length_8abf5 : ByteArray := prog_28_method_54_code
def yJ0_length_8abf5 : MethodName := ⟨RJ0, "length", "()I"⟩
abbrev cJ0_charAt_5068e : ByteArray := prog_28_method_56_code
def yJ0_charAt_5068e : MethodName := ⟨RJ0, "charAt", "(I)C"⟩
abbrev cJ0_getBytes_840e7 : ByteArray := prog_28_method_147_code
def yJ0_getBytes_840e7 : MethodName := ⟨RJ0, "getBytes", "([BIB)V"⟩
abbrev cJ0_init_db425 : ByteArray := prog_28_method_150_code
def yJ0_init_db425 : MethodName := ⟨RJ0, "<init>", "(Ljava/lang/AbstractStringBuilder;Ljava/lang/Void;)V"⟩
abbrev cJ0_coder_7d493 : ByteArray := prog_28_method_152_code
def yJ0_coder_7d493 : MethodName := ⟨RJ0, "coder", "()B"⟩
abbrev cJ0_isLatin1_aae02 : ByteArray := prog_28_method_154_code
def yJ0_isLatin1_aae02 : MethodName := ⟨RJ0, "isLatin1", "()Z"⟩
abbrev cJ0_checkIndex_df160 : ByteArray := prog_28_method_155_code
def yJ0_checkIndex_df160 : MethodName := ⟨RJ0, "checkIndex", "(II)V"⟩
abbrev cJ0_checkBoundsOffCount_cabcc : ByteArray := prog_28_method_157_code
def yJ0_checkBoundsOffCount_cabcc : MethodName := ⟨RJ0, "checkBoundsOffCount", "(III)I"⟩
abbrev cJ0_checkBoundsBeginEnd_23922 : ByteArray := prog_28_method_158_code
def yJ0_checkBoundsBeginEnd_23922 : MethodName := ⟨RJ0, "checkBoundsBeginEnd", "(III)V"⟩
def RJ4 : String := "java/lang/StringBuilder"
def TJ4 : u_T := fun k => match k with
  | 0 => ("java/lang/AbstractStringBuilder", "value", "[B", false)
  | 1 => ("java/lang/AbstractStringBuilder", "coder", "B", false)
  | 2 => ("java/lang/AbstractStringBuilder", "maybeLatin1", "Z", false)
  | _ => ("java/lang/AbstractStringBuilder", "count", "I", false)
def tyJ4 : Nat → FieldType := fun k => match k with
  | 0 => .array .byte
  | 1 => .byte
  | 2 => .boolean
  | _ => .int
abbrev wsJ40 : List Cond := u_ws RJ4 TJ4 4
theorem nmJ4 : ∀ a, a < 4 → ∀ b, b < 4 → a ≠ b → (TJ4 a).2.1 ≠ (TJ4 b).2.1 := by decide +kernel
theorem tyJ4_ok : ∀ k, k < 4 → parseFieldDescriptor (TJ4 k).2.2.1 = some (tyJ4 k) := by decide +kernel
abbrev cJ4_init_da8c8 : ByteArray := prog_29_method_1_code
def yJ4_init_da8c8 : MethodName := ⟨RJ4, "<init>", "()V"⟩
abbrev cJ4_append_15ec4 : ByteArray := prog_29_method_7_code
def yJ4_append_15ec4 : MethodName := ⟨RJ4, "append", "(Ljava/lang/String;)Ljava/lang/StringBuilder;"⟩
abbrev cJ4_append_bf812 : ByteArray := prog_29_method_15_code
def yJ4_append_bf812 : MethodName := ⟨RJ4, "append", "(I)Ljava/lang/StringBuilder;"⟩
abbrev cJ4_toString_0e30d : ByteArray := prog_29_method_42_code
def yJ4_toString_0e30d : MethodName := ⟨RJ4, "toString", "()Ljava/lang/String;"⟩
abbrev cJ4_length_8abf5 : ByteArray := prog_29_method_93_code
def yJ4_length_8abf5 : MethodName := ⟨RJ4, "length", "()I"⟩
def RJ1 : String := "java/lang/StringLatin1"
def TJ1 : u_T := fun k => match k with
  | _ => ("", "", "", false)
def tyJ1 : Nat → FieldType := fun k => match k with
  | _ => .int
abbrev wsJ10 : List Cond := u_ws RJ1 TJ1 0
theorem nmJ1 : ∀ a, a < 0 → ∀ b, b < 0 → a ≠ b → (TJ1 a).2.1 ≠ (TJ1 b).2.1 := by decide +kernel
theorem tyJ1_ok : ∀ k, k < 0 → parseFieldDescriptor (TJ1 k).2.2.1 = some (tyJ1 k) := by decide +kernel
abbrev cJ1_charAt_3b067 : ByteArray := prog_30_method_2_code
def yJ1_charAt_3b067 : MethodName := ⟨RJ1, "charAt", "([BI)C"⟩
abbrev cJ1_inflate_0e8fd : ByteArray := prog_30_method_50_code
def yJ1_inflate_0e8fd : MethodName := ⟨RJ1, "inflate", "([BI[BII)V"⟩
def RJ2 : String := "java/lang/StringUTF16"
def TJ2 : u_T := fun k => match k with
  | _ => ("", "", "", false)
def tyJ2 : Nat → FieldType := fun k => match k with
  | _ => .int
abbrev wsJ20 : List Cond := u_ws RJ2 TJ2 0
theorem nmJ2 : ∀ a, a < 0 → ∀ b, b < 0 → a ≠ b → (TJ2 a).2.1 ≠ (TJ2 b).2.1 := by decide +kernel
theorem tyJ2_ok : ∀ k, k < 0 → parseFieldDescriptor (TJ2 k).2.2.1 = some (tyJ2 k) := by decide +kernel
abbrev cJ2_newBytesFor_77867 : ByteArray := prog_31_method_2_code
def yJ2_newBytesFor_77867 : MethodName := ⟨RJ2, "newBytesFor", "(I)[B"⟩
abbrev cJ2_newBytesLength_0f7a4 : ByteArray := prog_31_method_3_code
def yJ2_newBytesLength_0f7a4 : MethodName := ⟨RJ2, "newBytesLength", "(I)I"⟩
abbrev cJ2_putChar_b72d1 : ByteArray := prog_31_method_4_code
def yJ2_putChar_b72d1 : MethodName := ⟨RJ2, "putChar", "([BII)V"⟩
abbrev cJ2_getChar_3b067 : ByteArray := prog_31_method_5_code
def yJ2_getChar_3b067 : MethodName := ⟨RJ2, "getChar", "([BI)C"⟩
abbrev cJ2_length_9d52b : ByteArray := prog_31_method_6_code
def yJ2_length_9d52b : MethodName := ⟨RJ2, "length", "([B)I"⟩
abbrev cJ2_coderFromArrayLen_85cad : ByteArray := prog_31_method_15_code
def yJ2_coderFromArrayLen_85cad : MethodName := ⟨RJ2, "coderFromArrayLen", "([BI)B"⟩
abbrev cJ2_compress_39247 : ByteArray := prog_31_method_17_code
def yJ2_compress_39247 : MethodName := ⟨RJ2, "compress", "([BII)[B"⟩
abbrev cJ2_compress_5af95 : ByteArray := prog_31_method_22_code
def yJ2_compress_5af95 : MethodName := ⟨RJ2, "compress", "([BI[BII)I"⟩
abbrev cJ2_getChars_46870 : ByteArray := prog_31_method_77_code
def yJ2_getChars_46870 : MethodName := ⟨RJ2, "getChars", "(III[B)I"⟩
abbrev cJ2_putCharsAt_cd4e5 : ByteArray := prog_31_method_81_code
def yJ2_putCharsAt_cd4e5 : MethodName := ⟨RJ2, "putCharsAt", "([BICCCC)I"⟩
abbrev cJ2_charAt_3b067 : ByteArray := prog_31_method_83_code
def yJ2_charAt_3b067 : MethodName := ⟨RJ2, "charAt", "([BI)C"⟩
abbrev cJ2_inflate_0e8fd : ByteArray := prog_31_method_86_code
def yJ2_inflate_0e8fd : MethodName := ⟨RJ2, "inflate", "([BI[BII)V"⟩
abbrev cJ2_getChars_ba4f3 : ByteArray := prog_31_method_89_code
def yJ2_getChars_ba4f3 : MethodName := ⟨RJ2, "getChars", "(II[B)I"⟩
abbrev cJ2_checkIndex_2214a : ByteArray := prog_31_method_91_code
def yJ2_checkIndex_2214a : MethodName := ⟨RJ2, "checkIndex", "(I[B)V"⟩
abbrev cJ2_checkBoundsBeginEnd_d044e : ByteArray := prog_31_method_93_code
def yJ2_checkBoundsBeginEnd_d044e : MethodName := ⟨RJ2, "checkBoundsBeginEnd", "(II[B)V"⟩
abbrev cJ2_checkBoundsOffCount_d044e : ByteArray := prog_31_method_94_code
def yJ2_checkBoundsOffCount_d044e : MethodName := ⟨RJ2, "checkBoundsOffCount", "(II[B)V"⟩
def RJ10 : String := "java/lang/System"
def TJ10 : u_T := fun k => match k with
  | _ => ("", "", "", false)
def tyJ10 : Nat → FieldType := fun k => match k with
  | _ => .int
abbrev wsJ100 : List Cond := u_ws RJ10 TJ10 0
theorem nmJ10 : ∀ a, a < 0 → ∀ b, b < 0 → a ≠ b → (TJ10 a).2.1 ≠ (TJ10 b).2.1 := by decide +kernel
theorem tyJ10_ok : ∀ k, k < 0 → parseFieldDescriptor (TJ10 k).2.2.1 = some (tyJ10 k) := by decide +kernel
def RJxfd54e : String := "java/lang/constant/Constable"
def TJxfd54e : u_T := fun k => match k with
  | _ => ("", "", "", false)
def tyJxfd54e : Nat → FieldType := fun k => match k with
  | _ => .int
abbrev wsJxfd54e0 : List Cond := u_ws RJxfd54e TJxfd54e 0
theorem nmJxfd54e : ∀ a, a < 0 → ∀ b, b < 0 → a ≠ b → (TJxfd54e a).2.1 ≠ (TJxfd54e b).2.1 := by decide +kernel
theorem tyJxfd54e_ok : ∀ k, k < 0 → parseFieldDescriptor (TJxfd54e k).2.2.1 = some (tyJxfd54e k) := by decide +kernel
def RJx3cf43 : String := "java/lang/constant/ConstantDesc"
def TJx3cf43 : u_T := fun k => match k with
  | _ => ("", "", "", false)
def tyJx3cf43 : Nat → FieldType := fun k => match k with
  | _ => .int
abbrev wsJx3cf430 : List Cond := u_ws RJx3cf43 TJx3cf43 0
theorem nmJx3cf43 : ∀ a, a < 0 → ∀ b, b < 0 → a ≠ b → (TJx3cf43 a).2.1 ≠ (TJx3cf43 b).2.1 := by decide +kernel
theorem tyJx3cf43_ok : ∀ k, k < 0 → parseFieldDescriptor (TJx3cf43 k).2.2.1 = some (tyJx3cf43 k) := by decide +kernel
def RJxa1e45 : String := "java/util/AbstractCollection"
def TJxa1e45 : u_T := fun k => match k with
  | _ => ("", "", "", false)
def tyJxa1e45 : Nat → FieldType := fun k => match k with
  | _ => .int
abbrev wsJxa1e450 : List Cond := u_ws RJxa1e45 TJxa1e45 0
theorem nmJxa1e45 : ∀ a, a < 0 → ∀ b, b < 0 → a ≠ b → (TJxa1e45 a).2.1 ≠ (TJxa1e45 b).2.1 := by decide +kernel
theorem tyJxa1e45_ok : ∀ k, k < 0 → parseFieldDescriptor (TJxa1e45 k).2.2.1 = some (tyJxa1e45 k) := by decide +kernel
abbrev cJxa1e45_init_da8c8 : ByteArray := prog_36_method_1_code
def yJxa1e45_init_da8c8 : MethodName := ⟨RJxa1e45, "<init>", "()V"⟩
def RJxc12de : String := "java/util/AbstractList"
def TJxc12de : u_T := fun k => match k with
  | _ => ("", "", "", false)
def tyJxc12de : Nat → FieldType := fun k => match k with
  | _ => .int
abbrev wsJxc12de0 : List Cond := u_ws RJxc12de TJxc12de 0
theorem nmJxc12de : ∀ a, a < 0 → ∀ b, b < 0 → a ≠ b → (TJxc12de a).2.1 ≠ (TJxc12de b).2.1 := by decide +kernel
theorem tyJxc12de_ok : ∀ k, k < 0 → parseFieldDescriptor (TJxc12de k).2.2.1 = some (tyJxc12de k) := by decide +kernel
abbrev cJxc12de_init_da8c8 : ByteArray := prog_37_method_1_code
def yJxc12de_init_da8c8 : MethodName := ⟨RJxc12de, "<init>", "()V"⟩
def RJx35411 : String := "java/util/ArrayList$Itr"
def TJx35411 : u_T := fun k => match k with
  | 0 => ("java/util/ArrayList$Itr", "cursor", "I", false)
  | 1 => ("java/util/ArrayList$Itr", "lastRet", "I", false)
  | 2 => ("java/util/ArrayList$Itr", "expectedModCount", "I", false)
  | _ => ("java/util/ArrayList$Itr", "this$0", "Ljava/util/ArrayList;", true)
def tyJx35411 : Nat → FieldType := fun k => match k with
  | 0 => .int
  | 1 => .int
  | 2 => .int
  | _ => .object "java/util/ArrayList"
abbrev wsJx354110 : List Cond := u_ws RJx35411 TJx35411 4
theorem nmJx35411 : ∀ a, a < 4 → ∀ b, b < 4 → a ≠ b → (TJx35411 a).2.1 ≠ (TJx35411 b).2.1 := by decide +kernel
theorem tyJx35411_ok : ∀ k, k < 4 → parseFieldDescriptor (TJx35411 k).2.2.1 = some (tyJx35411 k) := by decide +kernel
abbrev cJx35411_init_45d68 : ByteArray := prog_39_method_1_code
def yJx35411_init_45d68 : MethodName := ⟨RJx35411, "<init>", "(Ljava/util/ArrayList;)V"⟩
abbrev cJx35411_hasNext_aae02 : ByteArray := prog_39_method_2_code
def yJx35411_hasNext_aae02 : MethodName := ⟨RJx35411, "hasNext", "()Z"⟩
abbrev cJx35411_next_0502b : ByteArray := prog_39_method_3_code
def yJx35411_next_0502b : MethodName := ⟨RJx35411, "next", "()Ljava/lang/Object;"⟩
abbrev cJx35411_checkForComodification_da8c8 : ByteArray := prog_39_method_6_code
def yJx35411_checkForComodification_da8c8 : MethodName := ⟨RJx35411, "checkForComodification", "()V"⟩
def RJx4a65c : String := "java/util/ArrayList"
def TJx4a65c : u_T := fun k => match k with
  | 0 => ("java/util/AbstractList", "modCount", "I", false)
  | 1 => ("java/util/ArrayList", "elementData", "[Ljava/lang/Object;", false)
  | _ => ("java/util/ArrayList", "size", "I", false)
def tyJx4a65c : Nat → FieldType := fun k => match k with
  | 0 => .int
  | 1 => .array (.object "java/lang/Object")
  | _ => .int
abbrev wsJx4a65c0 : List Cond := u_ws RJx4a65c TJx4a65c 3
theorem nmJx4a65c : ∀ a, a < 3 → ∀ b, b < 3 → a ≠ b → (TJx4a65c a).2.1 ≠ (TJx4a65c b).2.1 := by decide +kernel
theorem tyJx4a65c_ok : ∀ k, k < 3 → parseFieldDescriptor (TJx4a65c k).2.2.1 = some (tyJx4a65c k) := by decide +kernel
abbrev cJx4a65c_init_da8c8 : ByteArray := prog_38_method_2_code
def yJx4a65c_init_da8c8 : MethodName := ⟨RJx4a65c, "<init>", "()V"⟩
abbrev cJx4a65c_grow_92f84 : ByteArray := prog_38_method_6_code
def yJx4a65c_grow_92f84 : MethodName := ⟨RJx4a65c, "grow", "(I)[Ljava/lang/Object;"⟩
abbrev cJx4a65c_grow_d5877 : ByteArray := prog_38_method_7_code
def yJx4a65c_grow_d5877 : MethodName := ⟨RJx4a65c, "grow", "()[Ljava/lang/Object;"⟩
abbrev cJx4a65c_add_72be8 : ByteArray := prog_38_method_24_code
def yJx4a65c_add_72be8 : MethodName := ⟨RJx4a65c, "add", "(Ljava/lang/Object;[Ljava/lang/Object;I)V"⟩
abbrev cJx4a65c_add_9ea2d : ByteArray := prog_38_method_25_code
def yJx4a65c_add_9ea2d : MethodName := ⟨RJx4a65c, "add", "(Ljava/lang/Object;)Z"⟩
abbrev cJx4a65c_iterator_32c93 : ByteArray := prog_38_method_55_code
def yJx4a65c_iterator_32c93 : MethodName := ⟨RJx4a65c, "iterator", "()Ljava/util/Iterator;"⟩
def RJ7 : String := "java/util/Arrays"
def TJ7 : u_T := fun k => match k with
  | _ => ("", "", "", false)
def tyJ7 : Nat → FieldType := fun k => match k with
  | _ => .int
abbrev wsJ70 : List Cond := u_ws RJ7 TJ7 0
theorem nmJ7 : ∀ a, a < 0 → ∀ b, b < 0 → a ≠ b → (TJ7 a).2.1 ≠ (TJ7 b).2.1 := by decide +kernel
theorem tyJ7_ok : ∀ k, k < 0 → parseFieldDescriptor (TJ7 k).2.2.1 = some (tyJ7 k) := by decide +kernel
abbrev cJ7_copyOf_1904c : ByteArray := prog_40_method_119_code
def yJ7_copyOf_1904c : MethodName := ⟨RJ7, "copyOf", "([Ljava/lang/Object;I)[Ljava/lang/Object;"⟩
abbrev cJ7_copyOf_6403c : ByteArray := prog_40_method_120_code
def yJ7_copyOf_6403c : MethodName := ⟨RJ7, "copyOf", "([Ljava/lang/Object;ILjava/lang/Class;)[Ljava/lang/Object;"⟩
abbrev cJ7_copyOf_9075b : ByteArray := prog_40_method_121_code
def yJ7_copyOf_9075b : MethodName := ⟨RJ7, "copyOf", "([BI)[B"⟩
abbrev cJ7_checkLength_df160 : ByteArray := prog_40_method_131_code
def yJ7_checkLength_df160 : MethodName := ⟨RJ7, "checkLength", "(II)V"⟩
abbrev cJ7_copyOfRange_39247 : ByteArray := prog_40_method_132_code
def yJ7_copyOfRange_39247 : MethodName := ⟨RJ7, "copyOfRange", "([BII)[B"⟩
abbrev cJ7_copyOfRangeByte_39247 : ByteArray := prog_40_method_133_code
def yJ7_copyOfRangeByte_39247 : MethodName := ⟨RJ7, "copyOfRangeByte", "([BII)[B"⟩
def RJx5ef63 : String := "java/util/Collection"
def TJx5ef63 : u_T := fun k => match k with
  | _ => ("", "", "", false)
def tyJx5ef63 : Nat → FieldType := fun k => match k with
  | _ => .int
abbrev wsJx5ef630 : List Cond := u_ws RJx5ef63 TJx5ef63 0
theorem nmJx5ef63 : ∀ a, a < 0 → ∀ b, b < 0 → a ≠ b → (TJx5ef63 a).2.1 ≠ (TJx5ef63 b).2.1 := by decide +kernel
theorem tyJx5ef63_ok : ∀ k, k < 0 → parseFieldDescriptor (TJx5ef63 k).2.2.1 = some (tyJx5ef63 k) := by decide +kernel
def RJx4d0d8 : String := "java/util/Iterator"
def TJx4d0d8 : u_T := fun k => match k with
  | _ => ("", "", "", false)
def tyJx4d0d8 : Nat → FieldType := fun k => match k with
  | _ => .int
abbrev wsJx4d0d80 : List Cond := u_ws RJx4d0d8 TJx4d0d8 0
theorem nmJx4d0d8 : ∀ a, a < 0 → ∀ b, b < 0 → a ≠ b → (TJx4d0d8 a).2.1 ≠ (TJx4d0d8 b).2.1 := by decide +kernel
theorem tyJx4d0d8_ok : ∀ k, k < 0 → parseFieldDescriptor (TJx4d0d8 k).2.2.1 = some (tyJx4d0d8 k) := by decide +kernel
def RJxbd725 : String := "java/util/List"
def TJxbd725 : u_T := fun k => match k with
  | _ => ("", "", "", false)
def tyJxbd725 : Nat → FieldType := fun k => match k with
  | _ => .int
abbrev wsJxbd7250 : List Cond := u_ws RJxbd725 TJxbd725 0
theorem nmJxbd725 : ∀ a, a < 0 → ∀ b, b < 0 → a ≠ b → (TJxbd725 a).2.1 ≠ (TJxbd725 b).2.1 := by decide +kernel
theorem tyJxbd725_ok : ∀ k, k < 0 → parseFieldDescriptor (TJxbd725 k).2.2.1 = some (tyJxbd725 k) := by decide +kernel
def RJxf0a74 : String := "java/util/RandomAccess"
def TJxf0a74 : u_T := fun k => match k with
  | _ => ("", "", "", false)
def tyJxf0a74 : Nat → FieldType := fun k => match k with
  | _ => .int
abbrev wsJxf0a740 : List Cond := u_ws RJxf0a74 TJxf0a74 0
theorem nmJxf0a74 : ∀ a, a < 0 → ∀ b, b < 0 → a ≠ b → (TJxf0a74 a).2.1 ≠ (TJxf0a74 b).2.1 := by decide +kernel
theorem tyJxf0a74_ok : ∀ k, k < 0 → parseFieldDescriptor (TJxf0a74 k).2.2.1 = some (tyJxf0a74 k) := by decide +kernel
def RJxa66e6 : String := "java/util/SequencedCollection"
def TJxa66e6 : u_T := fun k => match k with
  | _ => ("", "", "", false)
def tyJxa66e6 : Nat → FieldType := fun k => match k with
  | _ => .int
abbrev wsJxa66e60 : List Cond := u_ws RJxa66e6 TJxa66e6 0
theorem nmJxa66e6 : ∀ a, a < 0 → ∀ b, b < 0 → a ≠ b → (TJxa66e6 a).2.1 ≠ (TJxa66e6 b).2.1 := by decide +kernel
theorem tyJxa66e6_ok : ∀ k, k < 0 → parseFieldDescriptor (TJxa66e6 k).2.2.1 = some (tyJxa66e6 k) := by decide +kernel
def RJ8 : String := "jdk/internal/util/ArraysSupport"
def TJ8 : u_T := fun k => match k with
  | _ => ("", "", "", false)
def tyJ8 : Nat → FieldType := fun k => match k with
  | _ => .int
abbrev wsJ80 : List Cond := u_ws RJ8 TJ8 0
theorem nmJ8 : ∀ a, a < 0 → ∀ b, b < 0 → a ≠ b → (TJ8 a).2.1 ≠ (TJ8 b).2.1 := by decide +kernel
theorem tyJ8_ok : ∀ k, k < 0 → parseFieldDescriptor (TJ8 k).2.2.1 = some (tyJ8 k) := by decide +kernel
abbrev cJ8_newLength_cabcc : ByteArray := prog_47_method_27_code
def yJ8_newLength_cabcc : MethodName := ⟨RJ8, "newLength", "(III)I"⟩
abbrev cJ8_hugeLength_7cf53 : ByteArray := prog_47_method_28_code
def yJ8_hugeLength_7cf53 : MethodName := ⟨RJ8, "hugeLength", "(II)I"⟩
def RJ3 : String := "jdk/internal/util/Preconditions"
def TJ3 : u_T := fun k => match k with
  | _ => ("", "", "", false)
def tyJ3 : Nat → FieldType := fun k => match k with
  | _ => .int
abbrev wsJ30 : List Cond := u_ws RJ3 TJ3 0
theorem nmJ3 : ∀ a, a < 0 → ∀ b, b < 0 → a ≠ b → (TJ3 a).2.1 ≠ (TJ3 b).2.1 := by decide +kernel
theorem tyJ3_ok : ∀ k, k < 0 → parseFieldDescriptor (TJ3 k).2.2.1 = some (tyJ3 k) := by decide +kernel
abbrev cJ3_checkIndex_8e157 : ByteArray := prog_48_method_11_code
def yJ3_checkIndex_8e157 : MethodName := ⟨RJ3, "checkIndex", "(IILjava/util/function/BiFunction;)I"⟩
abbrev cJ3_checkFromToIndex_8c36e : ByteArray := prog_48_method_12_code
def yJ3_checkFromToIndex_8c36e : MethodName := ⟨RJ3, "checkFromToIndex", "(IIILjava/util/function/BiFunction;)I"⟩
abbrev cJ3_checkFromIndexSize_8c36e : ByteArray := prog_48_method_13_code
def yJ3_checkFromIndexSize_8c36e : MethodName := ⟨RJ3, "checkFromIndexSize", "(IIILjava/util/function/BiFunction;)I"⟩
def RL : String := "ContainerTerminalLaw"
abbrev cL_at : ByteArray := method_2_code
def yL_at : MethodName := ⟨RL, "at", "([II)I"⟩
abbrev cL_put : ByteArray := method_3_code
def yL_put : MethodName := ⟨RL, "put", "(LContainerTerminal;Ljava/lang/String;)V"⟩
abbrev cL_build : ByteArray := method_4_code
def yL_build : MethodName := ⟨RL, "build", "([I)LContainerTerminal;"⟩
abbrev cL_act : ByteArray := method_5_code
def yL_act : MethodName := ⟨RL, "act", "(LContainerTerminal;IIII)I"⟩
abbrev cL_stow : ByteArray := method_6_code
def yL_stow : MethodName := ⟨RL, "stow", "(LContainerTerminal;IIII)I"⟩
abbrev cL_stack : ByteArray := method_7_code
def yL_stack : MethodName := ⟨RL, "stack", "(LContainerTerminal;II)[I"⟩
abbrev cL_inYard : ByteArray := method_9_code
def yL_inYard : MethodName := ⟨RL, "inYard", "(LContainerTerminal;)Ljava/util/ArrayList;"⟩
abbrev cL_state : ByteArray := method_12_code
def yL_state : MethodName := ⟨RL, "state", "(LContainerTerminal;)I"⟩
abbrev cL_law : ByteArray := code
def yL_law : MethodName := ⟨RL, "law", "([I)Z"⟩
abbrev cL_isLine : ByteArray := method_14_code
def yL_isLine : MethodName := ⟨RL, "isLine", "(LContainerTerminal;ILjava/lang/String;)Z"⟩
abbrev cL_runs : ByteArray := method_15_code
def yL_runs : MethodName := ⟨RL, "runs", "(LContainerTerminal;)I"⟩
abbrev cL_fails : ByteArray := method_16_code
def yL_fails : MethodName := ⟨RL, "fails", "(LContainerTerminal;Ljava/lang/String;I)Z"⟩
abbrev vwCl : List vw_C := [(RJ0, TJ0, 4), (RJ4, TJ4, 4), (RJ6, TJ6, 1), (RJx00060, TJx00060, 6), (RJx35411, TJx35411, 4), (RJx4a65c, TJx4a65c, 3), (RX0, TX0, 7), (RX1, TX1, 3), (RX2, TX2, 3), (RX3, TX3, 2), (RX4, TX4, 3), (RX5, TX5, 11), (RX6, TX6, 10)]
