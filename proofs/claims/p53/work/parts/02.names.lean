def RX0 : String := "CoolingPlanner$1"
def TX0 : u_T := fun k => match k with
  | _ => ("", "", "", false)
def tyX0 : Nat → FieldType := fun k => match k with
  | _ => .int
abbrev wsX00 : List Cond := u_ws RX0 TX0 0
theorem nmX0 : ∀ a, a < 0 → ∀ b, b < 0 → a ≠ b → (TX0 a).2.1 ≠ (TX0 b).2.1 := by decide +kernel
theorem tyX0_ok : ∀ k, k < 0 → parseFieldDescriptor (TX0 k).2.2.1 = some (tyX0 k) := by decide +kernel
def RX1 : String := "CoolingPlanner$Centre"
def TX1 : u_T := fun k => match k with
  | 0 => ("CoolingPlanner$Centre", "racks", "LCoolingPlanner$Racks;", true)
  | 1 => ("CoolingPlanner$Centre", "fans", "LCoolingPlanner$Fans;", true)
  | 2 => ("CoolingPlanner$Centre", "stored", "[I", true)
  | 3 => ("CoolingPlanner$Centre", "limit", "I", false)
  | 4 => ("CoolingPlanner$Centre", "minute", "I", false)
  | 5 => ("CoolingPlanner$Centre", "made", "I", false)
  | 6 => ("CoolingPlanner$Centre", "carried", "I", false)
  | 7 => ("CoolingPlanner$Centre", "energy", "I", false)
  | _ => ("CoolingPlanner$Centre", "measured", "[F", true)
def tyX1 : Nat → FieldType := fun k => match k with
  | 0 => .object "CoolingPlanner$Racks"
  | 1 => .object "CoolingPlanner$Fans"
  | 2 => .array .int
  | 3 => .int
  | 4 => .int
  | 5 => .int
  | 6 => .int
  | 7 => .int
  | _ => .array .float
abbrev wsX10 : List Cond := u_ws RX1 TX1 9
theorem nmX1 : ∀ a, a < 9 → ∀ b, b < 9 → a ≠ b → (TX1 a).2.1 ≠ (TX1 b).2.1 := by decide +kernel
theorem tyX1_ok : ∀ k, k < 9 → parseFieldDescriptor (TX1 k).2.2.1 = some (tyX1 k) := by decide +kernel
abbrev cX1_init : ByteArray := prog_3_method_1_code
def yX1_init : MethodName := ⟨RX1, "<init>", "()V"⟩
abbrev cX1_copyFrom : ByteArray := prog_3_method_2_code
def yX1_copyFrom : MethodName := ⟨RX1, "copyFrom", "(LCoolingPlanner$Centre;)V"⟩
abbrev cX1_add : ByteArray := prog_3_method_3_code
def yX1_add : MethodName := ⟨RX1, "add", "(III)I"⟩
abbrev cX1_remove : ByteArray := prog_3_method_4_code
def yX1_remove : MethodName := ⟨RX1, "remove", "(I)I"⟩
abbrev cX1_move : ByteArray := prog_3_method_5_code
def yX1_move : MethodName := ⟨RX1, "move", "(III)I"⟩
abbrev cX1_changeLoad : ByteArray := prog_3_method_6_code
def yX1_changeLoad : MethodName := ⟨RX1, "changeLoad", "(II)I"⟩
abbrev cX1_send : ByteArray := prog_3_method_7_code
def yX1_send : MethodName := ⟨RX1, "send", "(III)I"⟩
abbrev cX1_changeLimit : ByteArray := prog_3_method_8_code
def yX1_changeLimit : MethodName := ⟨RX1, "changeLimit", "(I)I"⟩
abbrev cX1_pass : ByteArray := prog_3_method_9_code
def yX1_pass : MethodName := ⟨RX1, "pass", "(I)I"⟩
abbrev cX1_passIn : ByteArray := prog_3_method_10_code
def yX1_passIn : MethodName := ⟨RX1, "passIn", "(II)V"⟩
abbrev cX1_leftOver : ByteArray := prog_3_method_11_code
def yX1_leftOver : MethodName := ⟨RX1, "leftOver", "(II)I"⟩
abbrev cX1_storedIn : ByteArray := prog_3_method_12_code
def yX1_storedIn : MethodName := ⟨RX1, "storedIn", "(I)I"⟩
abbrev cX1_inletOf : ByteArray := prog_3_method_13_code
def yX1_inletOf : MethodName := ⟨RX1, "inletOf", "(I)F"⟩
abbrev cX1_heatAround : ByteArray := prog_3_method_14_code
def yX1_heatAround : MethodName := ⟨RX1, "heatAround", "(I)I"⟩
abbrev cX1_inletFor : ByteArray := prog_3_method_15_code
def yX1_inletFor : MethodName := ⟨RX1, "inletFor", "(II)F"⟩
abbrev cX1_riseAt : ByteArray := prog_3_method_16_code
def yX1_riseAt : MethodName := ⟨RX1, "riseAt", "(II)F"⟩
abbrev cX1_temperatureFor : ByteArray := prog_3_method_17_code
def yX1_temperatureFor : MethodName := ⟨RX1, "temperatureFor", "(FFI)F"⟩
abbrev cX1_temperatureOf : ByteArray := prog_3_method_18_code
def yX1_temperatureOf : MethodName := ⟨RX1, "temperatureOf", "(LCoolingPlanner$Rack;)F"⟩
abbrev cX1_isOverLimit : ByteArray := prog_3_method_19_code
def yX1_isOverLimit : MethodName := ⟨RX1, "isOverLimit", "(F)Z"⟩
abbrev cX1_isRackHot : ByteArray := prog_3_method_20_code
def yX1_isRackHot : MethodName := ⟨RX1, "isRackHot", "(LCoolingPlanner$Rack;)Z"⟩
abbrev cX1_countHotRacks : ByteArray := prog_3_method_21_code
def yX1_countHotRacks : MethodName := ⟨RX1, "countHotRacks", "()I"⟩
abbrev cX1_sumOfTemperatures : ByteArray := prog_3_method_23_code
def yX1_sumOfTemperatures : MethodName := ⟨RX1, "sumOfTemperatures", "()D"⟩
abbrev cX1_lowestSpeedByTrying : ByteArray := prog_3_method_24_code
def yX1_lowestSpeedByTrying : MethodName := ⟨RX1, "lowestSpeedByTrying", "(I)I"⟩
abbrev cX1_lowestSpeedByHalving : ByteArray := prog_3_method_25_code
def yX1_lowestSpeedByHalving : MethodName := ⟨RX1, "lowestSpeedByHalving", "(I)I"⟩
abbrev cX1_wouldBeHot : ByteArray := prog_3_method_26_code
def yX1_wouldBeHot : MethodName := ⟨RX1, "wouldBeHot", "(II)Z"⟩
abbrev cX1_minutesBeforeHot : ByteArray := prog_3_method_27_code
def yX1_minutesBeforeHot : MethodName := ⟨RX1, "minutesBeforeHot", "(LCoolingPlanner$Rack;)I"⟩
abbrev cX1_rackAtRank : ByteArray := prog_3_method_28_code
def yX1_rackAtRank : MethodName := ⟨RX1, "rackAtRank", "(I)I"⟩
abbrev cX1_measureRacks : ByteArray := prog_3_method_29_code
def yX1_measureRacks : MethodName := ⟨RX1, "measureRacks", "()V"⟩
abbrev cX1_countRacksBefore : ByteArray := prog_3_method_30_code
def yX1_countRacksBefore : MethodName := ⟨RX1, "countRacksBefore", "(I)I"⟩
abbrev cX1_comesRackBefore : ByteArray := prog_3_method_31_code
def yX1_comesRackBefore : MethodName := ⟨RX1, "comesRackBefore", "(II)Z"⟩
abbrev cX1_measuredAt : ByteArray := prog_3_method_32_code
def yX1_measuredAt : MethodName := ⟨RX1, "measuredAt", "(I)F"⟩
abbrev cX1_loadOf : ByteArray := prog_3_method_33_code
def yX1_loadOf : MethodName := ⟨RX1, "loadOf", "(I)I"⟩
abbrev cX1_aisleAtRank : ByteArray := prog_3_method_34_code
def yX1_aisleAtRank : MethodName := ⟨RX1, "aisleAtRank", "(I)I"⟩
abbrev cX1_countAislesBefore : ByteArray := prog_3_method_35_code
def yX1_countAislesBefore : MethodName := ⟨RX1, "countAislesBefore", "(I)I"⟩
abbrev cX1_comesAisleBefore : ByteArray := prog_3_method_36_code
def yX1_comesAisleBefore : MethodName := ⟨RX1, "comesAisleBefore", "(II)Z"⟩
def RX2 : String := "CoolingPlanner$Command"
def TX2 : u_T := fun k => match k with
  | _ => ("", "", "", false)
def tyX2 : Nat → FieldType := fun k => match k with
  | _ => .int
abbrev wsX20 : List Cond := u_ws RX2 TX2 0
theorem nmX2 : ∀ a, a < 0 → ∀ b, b < 0 → a ≠ b → (TX2 a).2.1 ≠ (TX2 b).2.1 := by decide +kernel
theorem tyX2_ok : ∀ k, k < 0 → parseFieldDescriptor (TX2 k).2.2.1 = some (tyX2 k) := by decide +kernel
def RX3 : String := "CoolingPlanner$Fans"
def TX3 : u_T := fun k => match k with
  | 0 => ("CoolingPlanner$Fans", "speeds", "[I", true)
  | _ => ("CoolingPlanner$Fans", "curve", "[I", true)
def tyX3 : Nat → FieldType := fun k => match k with
  | 0 => .array .int
  | _ => .array .int
abbrev wsX30 : List Cond := u_ws RX3 TX3 2
theorem nmX3 : ∀ a, a < 2 → ∀ b, b < 2 → a ≠ b → (TX3 a).2.1 ≠ (TX3 b).2.1 := by decide +kernel
theorem tyX3_ok : ∀ k, k < 2 → parseFieldDescriptor (TX3 k).2.2.1 = some (tyX3 k) := by decide +kernel
abbrev cX3_init : ByteArray := prog_5_method_1_code
def yX3_init : MethodName := ⟨RX3, "<init>", "()V"⟩
abbrev cX3_speedIn : ByteArray := prog_5_method_2_code
def yX3_speedIn : MethodName := ⟨RX3, "speedIn", "(I)I"⟩
abbrev cX3_pointAt : ByteArray := prog_5_method_3_code
def yX3_pointAt : MethodName := ⟨RX3, "pointAt", "(I)I"⟩
abbrev cX3_airflowFor : ByteArray := prog_5_method_4_code
def yX3_airflowFor : MethodName := ⟨RX3, "airflowFor", "(I)F"⟩
abbrev cX3_changeSpeed : ByteArray := prog_5_method_5_code
def yX3_changeSpeed : MethodName := ⟨RX3, "changeSpeed", "(II)I"⟩
abbrev cX3_changePoint : ByteArray := prog_5_method_6_code
def yX3_changePoint : MethodName := ⟨RX3, "changePoint", "(II)I"⟩
abbrev cX3_copyFrom : ByteArray := prog_5_method_7_code
def yX3_copyFrom : MethodName := ⟨RX3, "copyFrom", "(LCoolingPlanner$Fans;)V"⟩
def RX4 : String := "CoolingPlanner$Rack"
def TX4 : u_T := fun k => match k with
  | 0 => ("CoolingPlanner$Rack", "aisle", "I", false)
  | 1 => ("CoolingPlanner$Rack", "place", "I", false)
  | _ => ("CoolingPlanner$Rack", "load", "I", false)
def tyX4 : Nat → FieldType := fun k => match k with
  | 0 => .int
  | 1 => .int
  | _ => .int
abbrev wsX40 : List Cond := u_ws RX4 TX4 3
theorem nmX4 : ∀ a, a < 3 → ∀ b, b < 3 → a ≠ b → (TX4 a).2.1 ≠ (TX4 b).2.1 := by decide +kernel
theorem tyX4_ok : ∀ k, k < 3 → parseFieldDescriptor (TX4 k).2.2.1 = some (tyX4 k) := by decide +kernel
abbrev cX4_init : ByteArray := prog_6_method_1_code
def yX4_init : MethodName := ⟨RX4, "<init>", "()V"⟩
abbrev cX4_copyFrom : ByteArray := prog_6_method_2_code
def yX4_copyFrom : MethodName := ⟨RX4, "copyFrom", "(LCoolingPlanner$Rack;)V"⟩
def RX5 : String := "CoolingPlanner$Racks"
def TX5 : u_T := fun k => match k with
  | 0 => ("CoolingPlanner$Racks", "row", "[LCoolingPlanner$Rack;", true)
  | _ => ("CoolingPlanner$Racks", "count", "I", false)
def tyX5 : Nat → FieldType := fun k => match k with
  | 0 => .array (.object "CoolingPlanner$Rack")
  | _ => .int
abbrev wsX50 : List Cond := u_ws RX5 TX5 2
theorem nmX5 : ∀ a, a < 2 → ∀ b, b < 2 → a ≠ b → (TX5 a).2.1 ≠ (TX5 b).2.1 := by decide +kernel
theorem tyX5_ok : ∀ k, k < 2 → parseFieldDescriptor (TX5 k).2.2.1 = some (tyX5 k) := by decide +kernel
abbrev cX5_init : ByteArray := prog_7_method_1_code
def yX5_init : MethodName := ⟨RX5, "<init>", "()V"⟩
abbrev cX5_get : ByteArray := prog_7_method_2_code
def yX5_get : MethodName := ⟨RX5, "get", "(I)LCoolingPlanner$Rack;"⟩
abbrev cX5_find : ByteArray := prog_7_method_3_code
def yX5_find : MethodName := ⟨RX5, "find", "(II)I"⟩
abbrev cX5_heatIn : ByteArray := prog_7_method_4_code
def yX5_heatIn : MethodName := ⟨RX5, "heatIn", "(I)I"⟩
abbrev cX5_sumByRacks : ByteArray := prog_7_method_5_code
def yX5_sumByRacks : MethodName := ⟨RX5, "sumByRacks", "()I"⟩
abbrev cX5_isFull : ByteArray := prog_7_method_7_code
def yX5_isFull : MethodName := ⟨RX5, "isFull", "()Z"⟩
abbrev cX5_append : ByteArray := prog_7_method_8_code
def yX5_append : MethodName := ⟨RX5, "append", "(III)I"⟩
abbrev cX5_delete : ByteArray := prog_7_method_9_code
def yX5_delete : MethodName := ⟨RX5, "delete", "(I)V"⟩
abbrev cX5_copyFrom : ByteArray := prog_7_method_10_code
def yX5_copyFrom : MethodName := ⟨RX5, "copyFrom", "(LCoolingPlanner$Racks;)V"⟩
def RX6 : String := "CoolingPlanner$Script"
def TX6 : u_T := fun k => match k with
  | 0 => ("CoolingPlanner$Script", "text", "Ljava/lang/StringBuilder;", true)
  | 1 => ("CoolingPlanner$Script", "position", "I", false)
  | 2 => ("CoolingPlanner$Script", "reached", "I", false)
  | 3 => ("CoolingPlanner$Script", "command", "LCoolingPlanner$Command;", false)
  | 4 => ("CoolingPlanner$Script", "numbers", "[I", true)
  | _ => ("CoolingPlanner$Script", "numberCount", "I", false)
def tyX6 : Nat → FieldType := fun k => match k with
  | 0 => .object "java/lang/StringBuilder"
  | 1 => .int
  | 2 => .int
  | 3 => .object "CoolingPlanner$Command"
  | 4 => .array .int
  | _ => .int
abbrev wsX60 : List Cond := u_ws RX6 TX6 6
theorem nmX6 : ∀ a, a < 6 → ∀ b, b < 6 → a ≠ b → (TX6 a).2.1 ≠ (TX6 b).2.1 := by decide +kernel
theorem tyX6_ok : ∀ k, k < 6 → parseFieldDescriptor (TX6 k).2.2.1 = some (tyX6 k) := by decide +kernel
abbrev cX6_init : ByteArray := prog_8_method_1_code
def yX6_init : MethodName := ⟨RX6, "<init>", "()V"⟩
abbrev cX6_isFull : ByteArray := prog_8_method_2_code
def yX6_isFull : MethodName := ⟨RX6, "isFull", "()Z"⟩
abbrev cX6_append : ByteArray := prog_8_method_3_code
def yX6_append : MethodName := ⟨RX6, "append", "(C)I"⟩
abbrev cX6_clear : ByteArray := prog_8_method_4_code
def yX6_clear : MethodName := ⟨RX6, "clear", "()V"⟩
abbrev cX6_countCommands : ByteArray := prog_8_method_5_code
def yX6_countCommands : MethodName := ⟨RX6, "countCommands", "()I"⟩
abbrev cX6_performOn : ByteArray := prog_8_method_6_code
def yX6_performOn : MethodName := ⟨RX6, "performOn", "(LCoolingPlanner$Centre;I)I"⟩
abbrev cX6_perform : ByteArray := prog_8_method_7_code
def yX6_perform : MethodName := ⟨RX6, "perform", "(LCoolingPlanner$Centre;)I"⟩
abbrev cX6_readCommand : ByteArray := prog_8_method_8_code
def yX6_readCommand : MethodName := ⟨RX6, "readCommand", "()Z"⟩
abbrev cX6_readForm : ByteArray := prog_8_method_9_code
def yX6_readForm : MethodName := ⟨RX6, "readForm", "(Ljava/lang/String;)Z"⟩
abbrev cX6_readSign : ByteArray := prog_8_method_10_code
def yX6_readSign : MethodName := ⟨RX6, "readSign", "(C)Z"⟩
abbrev cX6_readNumber : ByteArray := prog_8_method_11_code
def yX6_readNumber : MethodName := ⟨RX6, "readNumber", "(I)Z"⟩
abbrev cX6_readCharacter : ByteArray := prog_8_method_12_code
def yX6_readCharacter : MethodName := ⟨RX6, "readCharacter", "(C)Z"⟩
abbrev cX6_next : ByteArray := prog_8_method_13_code
def yX6_next : MethodName := ⟨RX6, "next", "()C"⟩
abbrev cX6_goOn : ByteArray := prog_8_method_14_code
def yX6_goOn : MethodName := ⟨RX6, "goOn", "()V"⟩
abbrev cX6_isDigit : ByteArray := prog_8_method_15_code
def yX6_isDigit : MethodName := ⟨RX6, "isDigit", "(C)Z"⟩
def RX7 : String := "CoolingPlanner$Timeline"
def TX7 : u_T := fun k => match k with
  | 0 => ("CoolingPlanner$Timeline", "ring", "[LCoolingPlanner$Centre;", true)
  | 1 => ("CoolingPlanner$Timeline", "newest", "I", false)
  | _ => ("CoolingPlanner$Timeline", "undoable", "I", false)
def tyX7 : Nat → FieldType := fun k => match k with
  | 0 => .array (.object "CoolingPlanner$Centre")
  | 1 => .int
  | _ => .int
abbrev wsX70 : List Cond := u_ws RX7 TX7 3
theorem nmX7 : ∀ a, a < 3 → ∀ b, b < 3 → a ≠ b → (TX7 a).2.1 ≠ (TX7 b).2.1 := by decide +kernel
theorem tyX7_ok : ∀ k, k < 3 → parseFieldDescriptor (TX7 k).2.2.1 = some (tyX7 k) := by decide +kernel
abbrev cX7_init : ByteArray := prog_9_method_1_code
def yX7_init : MethodName := ⟨RX7, "<init>", "()V"⟩
abbrev cX7_present : ByteArray := prog_9_method_2_code
def yX7_present : MethodName := ⟨RX7, "present", "()LCoolingPlanner$Centre;"⟩
abbrev cX7_draft : ByteArray := prog_9_method_3_code
def yX7_draft : MethodName := ⟨RX7, "draft", "()LCoolingPlanner$Centre;"⟩
abbrev cX7_keepDraft : ByteArray := prog_9_method_4_code
def yX7_keepDraft : MethodName := ⟨RX7, "keepDraft", "()V"⟩
abbrev cX7_goBack : ByteArray := prog_9_method_5_code
def yX7_goBack : MethodName := ⟨RX7, "goBack", "()I"⟩
abbrev cX7_startAnewFrom : ByteArray := prog_9_method_6_code
def yX7_startAnewFrom : MethodName := ⟨RX7, "startAnewFrom", "(LCoolingPlanner$Centre;)V"⟩
abbrev cX7_stateAt : ByteArray := prog_9_method_7_code
def yX7_stateAt : MethodName := ⟨RX7, "stateAt", "(I)LCoolingPlanner$Centre;"⟩
def RX8 : String := "CoolingPlanner"
def TX8 : u_T := fun k => match k with
  | 0 => ("CoolingPlanner", "timeline", "LCoolingPlanner$Timeline;", true)
  | 1 => ("CoolingPlanner", "snapshot", "LCoolingPlanner$Centre;", true)
  | 2 => ("CoolingPlanner", "hasSnapshot", "Z", false)
  | 3 => ("CoolingPlanner", "script", "LCoolingPlanner$Script;", true)
  | 4 => ("CoolingPlanner", "errorAt", "I", false)
  | 5 => ("CoolingPlanner", "failedAt", "I", false)
  | _ => ("CoolingPlanner", "output", "Ljava/lang/StringBuilder;", true)
def tyX8 : Nat → FieldType := fun k => match k with
  | 0 => .object "CoolingPlanner$Timeline"
  | 1 => .object "CoolingPlanner$Centre"
  | 2 => .boolean
  | 3 => .object "CoolingPlanner$Script"
  | 4 => .int
  | 5 => .int
  | _ => .object "java/lang/StringBuilder"
abbrev wsX80 : List Cond := u_ws RX8 TX8 7
theorem nmX8 : ∀ a, a < 7 → ∀ b, b < 7 → a ≠ b → (TX8 a).2.1 ≠ (TX8 b).2.1 := by decide +kernel
theorem tyX8_ok : ∀ k, k < 7 → parseFieldDescriptor (TX8 k).2.2.1 = some (tyX8 k) := by decide +kernel
abbrev cX8_init : ByteArray := prog_1_method_1_code
def yX8_init : MethodName := ⟨RX8, "<init>", "()V"⟩
abbrev cX8_addRack : ByteArray := prog_1_method_2_code
def yX8_addRack : MethodName := ⟨RX8, "addRack", "(III)I"⟩
abbrev cX8_removeRack : ByteArray := prog_1_method_3_code
def yX8_removeRack : MethodName := ⟨RX8, "removeRack", "(I)I"⟩
abbrev cX8_moveRack : ByteArray := prog_1_method_4_code
def yX8_moveRack : MethodName := ⟨RX8, "moveRack", "(III)I"⟩
abbrev cX8_setLoad : ByteArray := prog_1_method_5_code
def yX8_setLoad : MethodName := ⟨RX8, "setLoad", "(II)I"⟩
abbrev cX8_migrate : ByteArray := prog_1_method_6_code
def yX8_migrate : MethodName := ⟨RX8, "migrate", "(III)I"⟩
abbrev cX8_setFan : ByteArray := prog_1_method_7_code
def yX8_setFan : MethodName := ⟨RX8, "setFan", "(II)I"⟩
abbrev cX8_setCurvePoint : ByteArray := prog_1_method_8_code
def yX8_setCurvePoint : MethodName := ⟨RX8, "setCurvePoint", "(II)I"⟩
abbrev cX8_setLimit : ByteArray := prog_1_method_9_code
def yX8_setLimit : MethodName := ⟨RX8, "setLimit", "(I)I"⟩
abbrev cX8_advance : ByteArray := prog_1_method_10_code
def yX8_advance : MethodName := ⟨RX8, "advance", "(I)I"⟩
abbrev cX8_rackCount : ByteArray := prog_1_method_11_code
def yX8_rackCount : MethodName := ⟨RX8, "rackCount", "()I"⟩
abbrev cX8_aisleOf : ByteArray := prog_1_method_12_code
def yX8_aisleOf : MethodName := ⟨RX8, "aisleOf", "(I)I"⟩
abbrev cX8_placeOf : ByteArray := prog_1_method_13_code
def yX8_placeOf : MethodName := ⟨RX8, "placeOf", "(I)I"⟩
abbrev cX8_load : ByteArray := prog_1_method_14_code
def yX8_load : MethodName := ⟨RX8, "load", "(I)I"⟩
abbrev cX8_rackAt : ByteArray := prog_1_method_15_code
def yX8_rackAt : MethodName := ⟨RX8, "rackAt", "(II)I"⟩
abbrev cX8_heat : ByteArray := prog_1_method_16_code
def yX8_heat : MethodName := ⟨RX8, "heat", "(I)I"⟩
abbrev cX8_totalLoad : ByteArray := prog_1_method_17_code
def yX8_totalLoad : MethodName := ⟨RX8, "totalLoad", "()I"⟩
abbrev cX8_fanSpeed : ByteArray := prog_1_method_19_code
def yX8_fanSpeed : MethodName := ⟨RX8, "fanSpeed", "(I)I"⟩
abbrev cX8_curvePoint : ByteArray := prog_1_method_20_code
def yX8_curvePoint : MethodName := ⟨RX8, "curvePoint", "(I)I"⟩
abbrev cX8_airflowAt : ByteArray := prog_1_method_21_code
def yX8_airflowAt : MethodName := ⟨RX8, "airflowAt", "(I)F"⟩
abbrev cX8_inletTemperature : ByteArray := prog_1_method_22_code
def yX8_inletTemperature : MethodName := ⟨RX8, "inletTemperature", "(I)F"⟩
abbrev cX8_rise : ByteArray := prog_1_method_23_code
def yX8_rise : MethodName := ⟨RX8, "rise", "(I)F"⟩
abbrev cX8_temperature : ByteArray := prog_1_method_24_code
def yX8_temperature : MethodName := ⟨RX8, "temperature", "(I)F"⟩
abbrev cX8_isHot : ByteArray := prog_1_method_25_code
def yX8_isHot : MethodName := ⟨RX8, "isHot", "(I)Z"⟩
abbrev cX8_hotSpots : ByteArray := prog_1_method_26_code
def yX8_hotSpots : MethodName := ⟨RX8, "hotSpots", "()I"⟩
abbrev cX8_neededSpeed : ByteArray := prog_1_method_28_code
def yX8_neededSpeed : MethodName := ⟨RX8, "neededSpeed", "(I)I"⟩
abbrev cX8_neededSpeedBySearch : ByteArray := prog_1_method_29_code
def yX8_neededSpeedBySearch : MethodName := ⟨RX8, "neededSpeedBySearch", "(I)I"⟩
abbrev cX8_minutesUntilHot : ByteArray := prog_1_method_30_code
def yX8_minutesUntilHot : MethodName := ⟨RX8, "minutesUntilHot", "(I)I"⟩
abbrev cX8_rackByTemperature : ByteArray := prog_1_method_31_code
def yX8_rackByTemperature : MethodName := ⟨RX8, "rackByTemperature", "(I)I"⟩
abbrev cX8_aisleByHeat : ByteArray := prog_1_method_32_code
def yX8_aisleByHeat : MethodName := ⟨RX8, "aisleByHeat", "(I)I"⟩
abbrev cX8_storedHeat : ByteArray := prog_1_method_33_code
def yX8_storedHeat : MethodName := ⟨RX8, "storedHeat", "(I)I"⟩
abbrev cX8_limit : ByteArray := prog_1_method_34_code
def yX8_limit : MethodName := ⟨RX8, "limit", "()I"⟩
abbrev cX8_minute : ByteArray := prog_1_method_35_code
def yX8_minute : MethodName := ⟨RX8, "minute", "()I"⟩
abbrev cX8_madeTotal : ByteArray := prog_1_method_36_code
def yX8_madeTotal : MethodName := ⟨RX8, "madeTotal", "()I"⟩
abbrev cX8_carriedTotal : ByteArray := prog_1_method_37_code
def yX8_carriedTotal : MethodName := ⟨RX8, "carriedTotal", "()I"⟩
abbrev cX8_energyTotal : ByteArray := prog_1_method_38_code
def yX8_energyTotal : MethodName := ⟨RX8, "energyTotal", "()I"⟩
abbrev cX8_meanTemperature : ByteArray := prog_1_method_39_code
def yX8_meanTemperature : MethodName := ⟨RX8, "meanTemperature", "()D"⟩
abbrev cX8_hotShare : ByteArray := prog_1_method_40_code
def yX8_hotShare : MethodName := ⟨RX8, "hotShare", "()F"⟩
abbrev cX8_renderRack : ByteArray := prog_1_method_42_code
def yX8_renderRack : MethodName := ⟨RX8, "renderRack", "(I)I"⟩
abbrev cX8_renderAisle : ByteArray := prog_1_method_43_code
def yX8_renderAisle : MethodName := ⟨RX8, "renderAisle", "(I)I"⟩
abbrev cX8_outputAt : ByteArray := prog_1_method_44_code
def yX8_outputAt : MethodName := ⟨RX8, "outputAt", "(I)C"⟩
abbrev cX8_type : ByteArray := prog_1_method_45_code
def yX8_type : MethodName := ⟨RX8, "type", "(C)I"⟩
abbrev cX8_runScript : ByteArray := prog_1_method_46_code
def yX8_runScript : MethodName := ⟨RX8, "runScript", "()I"⟩
abbrev cX8_errorPosition : ByteArray := prog_1_method_47_code
def yX8_errorPosition : MethodName := ⟨RX8, "errorPosition", "()I"⟩
abbrev cX8_failedCommand : ByteArray := prog_1_method_48_code
def yX8_failedCommand : MethodName := ⟨RX8, "failedCommand", "()I"⟩
abbrev cX8_undo : ByteArray := prog_1_method_49_code
def yX8_undo : MethodName := ⟨RX8, "undo", "()I"⟩
abbrev cX8_save : ByteArray := prog_1_method_50_code
def yX8_save : MethodName := ⟨RX8, "save", "()I"⟩
abbrev cX8_restore : ByteArray := prog_1_method_51_code
def yX8_restore : MethodName := ⟨RX8, "restore", "()I"⟩
abbrev cX8_now : ByteArray := prog_1_method_52_code
def yX8_now : MethodName := ⟨RX8, "now", "()LCoolingPlanner$Centre;"⟩
abbrev cX8_keepUnlessRefused : ByteArray := prog_1_method_53_code
def yX8_keepUnlessRefused : MethodName := ⟨RX8, "keepUnlessRefused", "(I)I"⟩
abbrev cX8_throwIfRefused : ByteArray := prog_1_method_54_code
def yX8_throwIfRefused : MethodName := ⟨RX8, "throwIfRefused", "(I)V"⟩
abbrev cX8_found : ByteArray := prog_1_method_55_code
def yX8_found : MethodName := ⟨RX8, "found", "(I)I"⟩
abbrev cX8_requireAisle : ByteArray := prog_1_method_56_code
def yX8_requireAisle : MethodName := ⟨RX8, "requireAisle", "(I)V"⟩
abbrev cX8_existingRack : ByteArray := prog_1_method_57_code
def yX8_existingRack : MethodName := ⟨RX8, "existingRack", "(I)LCoolingPlanner$Rack;"⟩
abbrev cX8_requireRacks : ByteArray := prog_1_method_58_code
def yX8_requireRacks : MethodName := ⟨RX8, "requireRacks", "()V"⟩
abbrev cX8_isBetween : ByteArray := prog_1_method_59_code
def yX8_isBetween : MethodName := ⟨RX8, "isBetween", "(III)Z"⟩
abbrev cX8_isAisle : ByteArray := prog_1_method_60_code
def yX8_isAisle : MethodName := ⟨RX8, "isAisle", "(I)Z"⟩
abbrev cX8_isPlace : ByteArray := prog_1_method_61_code
def yX8_isPlace : MethodName := ⟨RX8, "isPlace", "(I)Z"⟩
abbrev cX8_isLoad : ByteArray := prog_1_method_62_code
def yX8_isLoad : MethodName := ⟨RX8, "isLoad", "(I)Z"⟩
abbrev cX8_isSpeed : ByteArray := prog_1_method_63_code
def yX8_isSpeed : MethodName := ⟨RX8, "isSpeed", "(I)Z"⟩
abbrev cX8_isCurvePoint : ByteArray := prog_1_method_64_code
def yX8_isCurvePoint : MethodName := ⟨RX8, "isCurvePoint", "(I)Z"⟩
abbrev cX8_at : ByteArray := prog_1_method_65_code
def yX8_at : MethodName := ⟨RX8, "at", "([II)I"⟩
abbrev cX8_put : ByteArray := prog_1_method_66_code
def yX8_put : MethodName := ⟨RX8, "put", "([III)V"⟩
abbrev cX8_copy : ByteArray := prog_1_method_67_code
def yX8_copy : MethodName := ⟨RX8, "copy", "([I[I)V"⟩
def RX9 : String := "CoolingPlannerModel"
def TX9 : u_T := fun k => match k with
  | _ => ("", "", "", false)
def tyX9 : Nat → FieldType := fun k => match k with
  | _ => .int
abbrev wsX90 : List Cond := u_ws RX9 TX9 0
theorem nmX9 : ∀ a, a < 0 → ∀ b, b < 0 → a ≠ b → (TX9 a).2.1 ≠ (TX9 b).2.1 := by decide +kernel
theorem tyX9_ok : ∀ k, k < 0 → parseFieldDescriptor (TX9 k).2.2.1 = some (tyX9 k) := by decide +kernel
def RJx145de : String := "java/io/Serializable"
def TJx145de : u_T := fun k => match k with
  | _ => ("", "", "", false)
def tyJx145de : Nat → FieldType := fun k => match k with
  | _ => .int
abbrev wsJx145de0 : List Cond := u_ws RJx145de TJx145de 0
theorem nmJx145de : ∀ a, a < 0 → ∀ b, b < 0 → a ≠ b → (TJx145de a).2.1 ≠ (TJx145de b).2.1 := by decide +kernel
theorem tyJx145de_ok : ∀ k, k < 0 → parseFieldDescriptor (TJx145de k).2.2.1 = some (tyJx145de k) := by decide +kernel
def RJ5 : String := "java/lang/AbstractStringBuilder"
def TJ5 : u_T := fun k => match k with
  | _ => ("", "", "", false)
def tyJ5 : Nat → FieldType := fun k => match k with
  | _ => .int
abbrev wsJ50 : List Cond := u_ws RJ5 TJ5 0
theorem nmJ5 : ∀ a, a < 0 → ∀ b, b < 0 → a ≠ b → (TJ5 a).2.1 ≠ (TJ5 b).2.1 := by decide +kernel
theorem tyJ5_ok : ∀ k, k < 0 → parseFieldDescriptor (TJ5 k).2.2.1 = some (tyJ5 k) := by decide +kernel
abbrev cJ5_init_d00df : ByteArray := prog_13_method_2_code
def yJ5_init_d00df : MethodName := ⟨RJ5, "<init>", "(I)V"⟩
abbrev cJ5_length_8abf5 : ByteArray := prog_13_method_6_code
def yJ5_length_8abf5 : MethodName := ⟨RJ5, "length", "()I"⟩
abbrev cJ5_ensureCapacityInternal_d00df : ByteArray := prog_13_method_9_code
def yJ5_ensureCapacityInternal_d00df : MethodName := ⟨RJ5, "ensureCapacityInternal", "(I)V"⟩
abbrev cJ5_newCapacity_0f7a4 : ByteArray := prog_13_method_10_code
def yJ5_newCapacity_0f7a4 : MethodName := ⟨RJ5, "newCapacity", "(I)I"⟩
abbrev cJ5_inflate_da8c8 : ByteArray := prog_13_method_11_code
def yJ5_inflate_da8c8 : MethodName := ⟨RJ5, "inflate", "()V"⟩
abbrev cJ5_setLength_d00df : ByteArray := prog_13_method_13_code
def yJ5_setLength_d00df : MethodName := ⟨RJ5, "setLength", "(I)V"⟩
abbrev cJ5_charAt_5068e : ByteArray := prog_13_method_14_code
def yJ5_charAt_5068e : MethodName := ⟨RJ5, "charAt", "(I)C"⟩
abbrev cJ5_append_cf1ce : ByteArray := prog_13_method_22_code
def yJ5_append_cf1ce : MethodName := ⟨RJ5, "append", "(Ljava/lang/String;)Ljava/lang/AbstractStringBuilder;"⟩
abbrev cJ5_appendNull_278bc : ByteArray := prog_13_method_26_code
def yJ5_appendNull_278bc : MethodName := ⟨RJ5, "appendNull", "()Ljava/lang/AbstractStringBuilder;"⟩
abbrev cJ5_append_3fe6f : ByteArray := prog_13_method_31_code
def yJ5_append_3fe6f : MethodName := ⟨RJ5, "append", "(C)Ljava/lang/AbstractStringBuilder;"⟩
abbrev cJ5_append_c97b9 : ByteArray := prog_13_method_32_code
def yJ5_append_c97b9 : MethodName := ⟨RJ5, "append", "(I)Ljava/lang/AbstractStringBuilder;"⟩
abbrev cJ5_getValue_6d5f1 : ByteArray := prog_13_method_64_code
def yJ5_getValue_6d5f1 : MethodName := ⟨RJ5, "getValue", "()[B"⟩
abbrev cJ5_isLatin1_aae02 : ByteArray := prog_13_method_68_code
def yJ5_isLatin1_aae02 : MethodName := ⟨RJ5, "isLatin1", "()Z"⟩
abbrev cJ5_inflateIfNeededFor_a7421 : ByteArray := prog_13_method_71_code
def yJ5_inflateIfNeededFor_a7421 : MethodName := ⟨RJ5, "inflateIfNeededFor", "(Ljava/lang/String;)V"⟩
abbrev cJ5_putStringAt_47b60 : ByteArray := prog_13_method_73_code
def yJ5_putStringAt_47b60 : MethodName := ⟨RJ5, "putStringAt", "(ILjava/lang/String;)V"⟩
def RJx2cfe8 : String := "java/lang/Appendable"
def TJx2cfe8 : u_T := fun k => match k with
  | _ => ("", "", "", false)
def tyJx2cfe8 : Nat → FieldType := fun k => match k with
  | _ => .int
abbrev wsJx2cfe80 : List Cond := u_ws RJx2cfe8 TJx2cfe8 0
theorem nmJx2cfe8 : ∀ a, a < 0 → ∀ b, b < 0 → a ≠ b → (TJx2cfe8 a).2.1 ≠ (TJx2cfe8 b).2.1 := by decide +kernel
theorem tyJx2cfe8_ok : ∀ k, k < 0 → parseFieldDescriptor (TJx2cfe8 k).2.2.1 = some (tyJx2cfe8 k) := by decide +kernel
def RJx00060 : String := "java/lang/ArrayIndexOutOfBoundsException"
def TJx00060 : u_T := fun k => match k with
  | 0 => ("java/lang/Throwable", "backtrace", "Ljava/lang/Object;", false)
  | 1 => ("java/lang/Throwable", "detailMessage", "Ljava/lang/String;", false)
  | 2 => ("java/lang/Throwable", "cause", "Ljava/lang/Throwable;", false)
  | 3 => ("java/lang/Throwable", "stackTrace", "[Ljava/lang/StackTraceElement;", false)
  | 4 => ("java/lang/Throwable", "depth", "I", false)
  | _ => ("java/lang/Throwable", "suppressedExceptions", "Ljava/util/List;", false)
def tyJx00060 : Nat → FieldType := fun k => match k with
  | 0 => .object "java/lang/Object"
  | 1 => .object "java/lang/String"
  | 2 => .object "java/lang/Throwable"
  | 3 => .array (.object "java/lang/StackTraceElement")
  | 4 => .int
  | _ => .object "java/util/List"
abbrev wsJx000600 : List Cond := u_ws RJx00060 TJx00060 6
theorem nmJx00060 : ∀ a, a < 6 → ∀ b, b < 6 → a ≠ b → (TJx00060 a).2.1 ≠ (TJx00060 b).2.1 := by decide +kernel
theorem tyJx00060_ok : ∀ k, k < 6 → parseFieldDescriptor (TJx00060 k).2.2.1 = some (tyJx00060 k) := by decide +kernel
abbrev cJx00060_init_a7421 : ByteArray := prog_16_method_2_code
def yJx00060_init_a7421 : MethodName := ⟨RJx00060, "<init>", "(Ljava/lang/String;)V"⟩
abbrev cJx00060_init_d00df : ByteArray := prog_16_method_3_code
def yJx00060_init_d00df : MethodName := ⟨RJx00060, "<init>", "(I)V"⟩
def RJx9f9b0 : String := "java/lang/CharSequence"
def TJx9f9b0 : u_T := fun k => match k with
  | _ => ("", "", "", false)
def tyJx9f9b0 : Nat → FieldType := fun k => match k with
  | _ => .int
abbrev wsJx9f9b00 : List Cond := u_ws RJx9f9b0 TJx9f9b0 0
theorem nmJx9f9b0 : ∀ a, a < 0 → ∀ b, b < 0 → a ≠ b → (TJx9f9b0 a).2.1 ≠ (TJx9f9b0 b).2.1 := by decide +kernel
theorem tyJx9f9b0_ok : ∀ k, k < 0 → parseFieldDescriptor (TJx9f9b0 k).2.2.1 = some (tyJx9f9b0 k) := by decide +kernel
def RJx8e188 : String := "java/lang/Cloneable"
def TJx8e188 : u_T := fun k => match k with
  | _ => ("", "", "", false)
def tyJx8e188 : Nat → FieldType := fun k => match k with
  | _ => .int
abbrev wsJx8e1880 : List Cond := u_ws RJx8e188 TJx8e188 0
theorem nmJx8e188 : ∀ a, a < 0 → ∀ b, b < 0 → a ≠ b → (TJx8e188 a).2.1 ≠ (TJx8e188 b).2.1 := by decide +kernel
theorem tyJx8e188_ok : ∀ k, k < 0 → parseFieldDescriptor (TJx8e188 k).2.2.1 = some (tyJx8e188 k) := by decide +kernel
def RJxb160c : String := "java/lang/Comparable"
def TJxb160c : u_T := fun k => match k with
  | _ => ("", "", "", false)
def tyJxb160c : Nat → FieldType := fun k => match k with
  | _ => .int
abbrev wsJxb160c0 : List Cond := u_ws RJxb160c TJxb160c 0
theorem nmJxb160c : ∀ a, a < 0 → ∀ b, b < 0 → a ≠ b → (TJxb160c a).2.1 ≠ (TJxb160c b).2.1 := by decide +kernel
theorem tyJxb160c_ok : ∀ k, k < 0 → parseFieldDescriptor (TJxb160c k).2.2.1 = some (tyJxb160c k) := by decide +kernel
def RJxe99ae : String := "java/lang/Double"
def TJxe99ae : u_T := fun k => match k with
  | _ => ("", "", "", false)
def tyJxe99ae : Nat → FieldType := fun k => match k with
  | _ => .int
abbrev wsJxe99ae0 : List Cond := u_ws RJxe99ae TJxe99ae 0
theorem nmJxe99ae : ∀ a, a < 0 → ∀ b, b < 0 → a ≠ b → (TJxe99ae a).2.1 ≠ (TJxe99ae b).2.1 := by decide +kernel
theorem tyJxe99ae_ok : ∀ k, k < 0 → parseFieldDescriptor (TJxe99ae k).2.2.1 = some (tyJxe99ae k) := by decide +kernel
abbrev cJxe99ae_isNaN_b9ae7 : ByteArray := prog_20_method_6_code
def yJxe99ae_isNaN_b9ae7 : MethodName := ⟨RJxe99ae, "isNaN", "(D)Z"⟩
abbrev cJxe99ae_doubleToLongBits_ccdee : ByteArray := prog_20_method_23_code
def yJxe99ae_doubleToLongBits_ccdee : MethodName := ⟨RJxe99ae, "doubleToLongBits", "(D)J"⟩
def RJx29ce0 : String := "java/lang/Enum"
def TJx29ce0 : u_T := fun k => match k with
  | _ => ("", "", "", false)
def tyJx29ce0 : Nat → FieldType := fun k => match k with
  | _ => .int
abbrev wsJx29ce00 : List Cond := u_ws RJx29ce0 TJx29ce0 0
theorem nmJx29ce0 : ∀ a, a < 0 → ∀ b, b < 0 → a ≠ b → (TJx29ce0 a).2.1 ≠ (TJx29ce0 b).2.1 := by decide +kernel
theorem tyJx29ce0_ok : ∀ k, k < 0 → parseFieldDescriptor (TJx29ce0 k).2.2.1 = some (tyJx29ce0 k) := by decide +kernel
abbrev cJx29ce0_ordinal_8abf5 : ByteArray := prog_21_method_2_code
def yJx29ce0_ordinal_8abf5 : MethodName := ⟨RJx29ce0, "ordinal", "()I"⟩
def RJxf58ca : String := "java/lang/Float"
def TJxf58ca : u_T := fun k => match k with
  | _ => ("", "", "", false)
def tyJxf58ca : Nat → FieldType := fun k => match k with
  | _ => .int
abbrev wsJxf58ca0 : List Cond := u_ws RJxf58ca TJxf58ca 0
theorem nmJxf58ca : ∀ a, a < 0 → ∀ b, b < 0 → a ≠ b → (TJxf58ca a).2.1 ≠ (TJxf58ca b).2.1 := by decide +kernel
theorem tyJxf58ca_ok : ∀ k, k < 0 → parseFieldDescriptor (TJxf58ca k).2.2.1 = some (tyJxf58ca k) := by decide +kernel
abbrev cJxf58ca_isNaN_12338 : ByteArray := prog_23_method_6_code
def yJxf58ca_isNaN_12338 : MethodName := ⟨RJxf58ca, "isNaN", "(F)Z"⟩
abbrev cJxf58ca_floatToIntBits_5c35a : ByteArray := prog_23_method_24_code
def yJxf58ca_floatToIntBits_5c35a : MethodName := ⟨RJxf58ca, "floatToIntBits", "(F)I"⟩
def RJ6 : String := "java/lang/Integer"
def TJ6 : u_T := fun k => match k with
  | _ => ("", "", "", false)
def tyJ6 : Nat → FieldType := fun k => match k with
  | _ => .int
abbrev wsJ60 : List Cond := u_ws RJ6 TJ6 0
theorem nmJ6 : ∀ a, a < 0 → ∀ b, b < 0 → a ≠ b → (TJ6 a).2.1 ≠ (TJ6 b).2.1 := by decide +kernel
theorem tyJ6_ok : ∀ k, k < 0 → parseFieldDescriptor (TJ6 k).2.2.1 = some (tyJ6 k) := by decide +kernel
abbrev cJ6_getChars_ba4f3 : ByteArray := prog_27_method_12_code
def yJ6_getChars_ba4f3 : MethodName := ⟨RJ6, "getChars", "(II[B)I"⟩
abbrev cJ6_stringSize_0f7a4 : ByteArray := prog_27_method_13_code
def yJ6_stringSize_0f7a4 : MethodName := ⟨RJ6, "stringSize", "(I)I"⟩
def RJ9 : String := "java/lang/Math"
def TJ9 : u_T := fun k => match k with
  | _ => ("", "", "", false)
def tyJ9 : Nat → FieldType := fun k => match k with
  | _ => .int
abbrev wsJ90 : List Cond := u_ws RJ9 TJ9 0
theorem nmJ9 : ∀ a, a < 0 → ∀ b, b < 0 → a ≠ b → (TJ9 a).2.1 ≠ (TJ9 b).2.1 := by decide +kernel
theorem tyJ9_ok : ∀ k, k < 0 → parseFieldDescriptor (TJ9 k).2.2.1 = some (tyJ9 k) := by decide +kernel
abbrev cJ9_floorMod_7cf53 : ByteArray := prog_28_method_50_code
def yJ9_floorMod_7cf53 : MethodName := ⟨RJ9, "floorMod", "(II)I"⟩
abbrev cJ9_max_7cf53 : ByteArray := prog_28_method_65_code
def yJ9_max_7cf53 : MethodName := ⟨RJ9, "max", "(II)I"⟩
abbrev cJ9_min_7cf53 : ByteArray := prog_28_method_69_code
def yJ9_min_7cf53 : MethodName := ⟨RJ9, "min", "(II)I"⟩
def RJxd2413 : String := "java/lang/Number"
def TJxd2413 : u_T := fun k => match k with
  | _ => ("", "", "", false)
def tyJxd2413 : Nat → FieldType := fun k => match k with
  | _ => .int
abbrev wsJxd24130 : List Cond := u_ws RJxd2413 TJxd2413 0
theorem nmJxd2413 : ∀ a, a < 0 → ∀ b, b < 0 → a ≠ b → (TJxd2413 a).2.1 ≠ (TJxd2413 b).2.1 := by decide +kernel
theorem tyJxd2413_ok : ∀ k, k < 0 → parseFieldDescriptor (TJxd2413 k).2.2.1 = some (tyJxd2413 k) := by decide +kernel
def RJ0 : String := "java/lang/String"
def TJ0 : u_T := fun k => match k with
  | 0 => ("java/lang/String", "value", "[B", true)
  | 1 => ("java/lang/String", "coder", "B", true)
  | 2 => ("java/lang/String", "hash", "I", false)
  | _ => ("java/lang/String", "hashIsZero", "Z", false)
def tyJ0 : Nat → FieldType := fun k => match k with
  | 0 => .array .byte
  | 1 => .byte
  | 2 => .int
  | _ => .boolean
abbrev wsJ00 : List Cond := u_ws RJ0 TJ0 4
theorem nmJ0 : ∀ a, a < 4 → ∀ b, b < 4 → a ≠ b → (TJ0 a).2.1 ≠ (TJ0 b).2.1 := by decide +kernel
theorem tyJ0_ok : ∀ k, k < 4 → parseFieldDescriptor (TJ0 k).2.2.1 = some (tyJ0 k) := by decide +kernel
abbrev cJ0_init_81219 : ByteArray := prog_31_method_53_code
def yJ0_init_81219 : MethodName := ⟨RJ0, "<init>", "(Ljava/lang/StringBuilder;)V"⟩
abbrev cJ0_length_8abf5 : ByteArray := prog_31_method_54_code
def yJ0_length_8abf5 : MethodName := ⟨RJ0, "length", "()I"⟩
abbrev cJ0_charAt_5068e : ByteArray := prog_31_method_56_code
def yJ0_charAt_5068e : MethodName := ⟨RJ0, "charAt", "(I)C"⟩
abbrev cJ0_getBytes_840e7 : ByteArray := prog_31_method_147_code
def yJ0_getBytes_840e7 : MethodName := ⟨RJ0, "getBytes", "([BIB)V"⟩
abbrev cJ0_init_db425 : ByteArray := prog_31_method_150_code
def yJ0_init_db425 : MethodName := ⟨RJ0, "<init>", "(Ljava/lang/AbstractStringBuilder;Ljava/lang/Void;)V"⟩
abbrev cJ0_coder_7d493 : ByteArray := prog_31_method_152_code
def yJ0_coder_7d493 : MethodName := ⟨RJ0, "coder", "()B"⟩
abbrev cJ0_isLatin1_aae02 : ByteArray := prog_31_method_154_code
def yJ0_isLatin1_aae02 : MethodName := ⟨RJ0, "isLatin1", "()Z"⟩
abbrev cJ0_checkIndex_df160 : ByteArray := prog_31_method_155_code
def yJ0_checkIndex_df160 : MethodName := ⟨RJ0, "checkIndex", "(II)V"⟩
abbrev cJ0_checkBoundsOffCount_cabcc : ByteArray := prog_31_method_157_code
def yJ0_checkBoundsOffCount_cabcc : MethodName := ⟨RJ0, "checkBoundsOffCount", "(III)I"⟩
abbrev cJ0_checkBoundsBeginEnd_23922 : ByteArray := prog_31_method_158_code
def yJ0_checkBoundsBeginEnd_23922 : MethodName := ⟨RJ0, "checkBoundsBeginEnd", "(III)V"⟩
def RJ4 : String := "java/lang/StringBuilder"
def TJ4 : u_T := fun k => match k with
  | 0 => ("java/lang/AbstractStringBuilder", "value", "[B", false)
  | 1 => ("java/lang/AbstractStringBuilder", "coder", "B", false)
  | 2 => ("java/lang/AbstractStringBuilder", "maybeLatin1", "Z", false)
  | _ => ("java/lang/AbstractStringBuilder", "count", "I", false)
def tyJ4 : Nat → FieldType := fun k => match k with
  | 0 => .array .byte
  | 1 => .byte
  | 2 => .boolean
  | _ => .int
abbrev wsJ40 : List Cond := u_ws RJ4 TJ4 4
theorem nmJ4 : ∀ a, a < 4 → ∀ b, b < 4 → a ≠ b → (TJ4 a).2.1 ≠ (TJ4 b).2.1 := by decide +kernel
theorem tyJ4_ok : ∀ k, k < 4 → parseFieldDescriptor (TJ4 k).2.2.1 = some (tyJ4 k) := by decide +kernel
abbrev cJ4_init_da8c8 : ByteArray := prog_32_method_1_code
def yJ4_init_da8c8 : MethodName := ⟨RJ4, "<init>", "()V"⟩
abbrev cJ4_append_15ec4 : ByteArray := prog_32_method_7_code
def yJ4_append_15ec4 : MethodName := ⟨RJ4, "append", "(Ljava/lang/String;)Ljava/lang/StringBuilder;"⟩
abbrev cJ4_append_cf468 : ByteArray := prog_32_method_14_code
def yJ4_append_cf468 : MethodName := ⟨RJ4, "append", "(C)Ljava/lang/StringBuilder;"⟩
abbrev cJ4_append_bf812 : ByteArray := prog_32_method_15_code
def yJ4_append_bf812 : MethodName := ⟨RJ4, "append", "(I)Ljava/lang/StringBuilder;"⟩
abbrev cJ4_toString_0e30d : ByteArray := prog_32_method_42_code
def yJ4_toString_0e30d : MethodName := ⟨RJ4, "toString", "()Ljava/lang/String;"⟩
abbrev cJ4_charAt_5068e : ByteArray := prog_32_method_88_code
def yJ4_charAt_5068e : MethodName := ⟨RJ4, "charAt", "(I)C"⟩
abbrev cJ4_setLength_d00df : ByteArray := prog_32_method_89_code
def yJ4_setLength_d00df : MethodName := ⟨RJ4, "setLength", "(I)V"⟩
abbrev cJ4_length_8abf5 : ByteArray := prog_32_method_93_code
def yJ4_length_8abf5 : MethodName := ⟨RJ4, "length", "()I"⟩
def RJx7c733 : String := "java/lang/StringIndexOutOfBoundsException"
def TJx7c733 : u_T := fun k => match k with
  | 0 => ("java/lang/Throwable", "backtrace", "Ljava/lang/Object;", false)
  | 1 => ("java/lang/Throwable", "detailMessage", "Ljava/lang/String;", false)
  | 2 => ("java/lang/Throwable", "cause", "Ljava/lang/Throwable;", false)
  | 3 => ("java/lang/Throwable", "stackTrace", "[Ljava/lang/StackTraceElement;", false)
  | 4 => ("java/lang/Throwable", "depth", "I", false)
  | _ => ("java/lang/Throwable", "suppressedExceptions", "Ljava/util/List;", false)
def tyJx7c733 : Nat → FieldType := fun k => match k with
  | 0 => .object "java/lang/Object"
  | 1 => .object "java/lang/String"
  | 2 => .object "java/lang/Throwable"
  | 3 => .array (.object "java/lang/StackTraceElement")
  | 4 => .int
  | _ => .object "java/util/List"
abbrev wsJx7c7330 : List Cond := u_ws RJx7c733 TJx7c733 6
theorem nmJx7c733 : ∀ a, a < 6 → ∀ b, b < 6 → a ≠ b → (TJx7c733 a).2.1 ≠ (TJx7c733 b).2.1 := by decide +kernel
theorem tyJx7c733_ok : ∀ k, k < 6 → parseFieldDescriptor (TJx7c733 k).2.2.1 = some (tyJx7c733 k) := by decide +kernel
abbrev cJx7c733_init_d00df : ByteArray := prog_33_method_3_code
def yJx7c733_init_d00df : MethodName := ⟨RJx7c733, "<init>", "(I)V"⟩
def RJ1 : String := "java/lang/StringLatin1"
def TJ1 : u_T := fun k => match k with
  | _ => ("", "", "", false)
def tyJ1 : Nat → FieldType := fun k => match k with
  | _ => .int
abbrev wsJ10 : List Cond := u_ws RJ1 TJ1 0
theorem nmJ1 : ∀ a, a < 0 → ∀ b, b < 0 → a ≠ b → (TJ1 a).2.1 ≠ (TJ1 b).2.1 := by decide +kernel
theorem tyJ1_ok : ∀ k, k < 0 → parseFieldDescriptor (TJ1 k).2.2.1 = some (tyJ1 k) := by decide +kernel
abbrev cJ1_charAt_3b067 : ByteArray := prog_34_method_2_code
def yJ1_charAt_3b067 : MethodName := ⟨RJ1, "charAt", "([BI)C"⟩
abbrev cJ1_canEncode_fc78d : ByteArray := prog_34_method_3_code
def yJ1_canEncode_fc78d : MethodName := ⟨RJ1, "canEncode", "(C)Z"⟩
abbrev cJ1_fillNull_b72d1 : ByteArray := prog_34_method_48_code
def yJ1_fillNull_b72d1 : MethodName := ⟨RJ1, "fillNull", "([BII)V"⟩
abbrev cJ1_inflate_0e8fd : ByteArray := prog_34_method_50_code
def yJ1_inflate_0e8fd : MethodName := ⟨RJ1, "inflate", "([BI[BII)V"⟩
def RJ2 : String := "java/lang/StringUTF16"
def TJ2 : u_T := fun k => match k with
  | _ => ("", "", "", false)
def tyJ2 : Nat → FieldType := fun k => match k with
  | _ => .int
abbrev wsJ20 : List Cond := u_ws RJ2 TJ2 0
theorem nmJ2 : ∀ a, a < 0 → ∀ b, b < 0 → a ≠ b → (TJ2 a).2.1 ≠ (TJ2 b).2.1 := by decide +kernel
theorem tyJ2_ok : ∀ k, k < 0 → parseFieldDescriptor (TJ2 k).2.2.1 = some (tyJ2 k) := by decide +kernel
abbrev cJ2_newBytesFor_77867 : ByteArray := prog_35_method_2_code
def yJ2_newBytesFor_77867 : MethodName := ⟨RJ2, "newBytesFor", "(I)[B"⟩
abbrev cJ2_newBytesLength_0f7a4 : ByteArray := prog_35_method_3_code
def yJ2_newBytesLength_0f7a4 : MethodName := ⟨RJ2, "newBytesLength", "(I)I"⟩
abbrev cJ2_putChar_b72d1 : ByteArray := prog_35_method_4_code
def yJ2_putChar_b72d1 : MethodName := ⟨RJ2, "putChar", "([BII)V"⟩
abbrev cJ2_getChar_3b067 : ByteArray := prog_35_method_5_code
def yJ2_getChar_3b067 : MethodName := ⟨RJ2, "getChar", "([BI)C"⟩
abbrev cJ2_length_9d52b : ByteArray := prog_35_method_6_code
def yJ2_length_9d52b : MethodName := ⟨RJ2, "length", "([B)I"⟩
abbrev cJ2_coderFromArrayLen_85cad : ByteArray := prog_35_method_15_code
def yJ2_coderFromArrayLen_85cad : MethodName := ⟨RJ2, "coderFromArrayLen", "([BI)B"⟩
abbrev cJ2_compress_39247 : ByteArray := prog_35_method_17_code
def yJ2_compress_39247 : MethodName := ⟨RJ2, "compress", "([BII)[B"⟩
abbrev cJ2_compress_5af95 : ByteArray := prog_35_method_22_code
def yJ2_compress_5af95 : MethodName := ⟨RJ2, "compress", "([BI[BII)I"⟩
abbrev cJ2_fillNull_b72d1 : ByteArray := prog_35_method_70_code
def yJ2_fillNull_b72d1 : MethodName := ⟨RJ2, "fillNull", "([BII)V"⟩
abbrev cJ2_putCharSB_b72d1 : ByteArray := prog_35_method_71_code
def yJ2_putCharSB_b72d1 : MethodName := ⟨RJ2, "putCharSB", "([BII)V"⟩
abbrev cJ2_getChars_46870 : ByteArray := prog_35_method_77_code
def yJ2_getChars_46870 : MethodName := ⟨RJ2, "getChars", "(III[B)I"⟩
abbrev cJ2_putCharsAt_cd4e5 : ByteArray := prog_35_method_81_code
def yJ2_putCharsAt_cd4e5 : MethodName := ⟨RJ2, "putCharsAt", "([BICCCC)I"⟩
abbrev cJ2_charAt_3b067 : ByteArray := prog_35_method_83_code
def yJ2_charAt_3b067 : MethodName := ⟨RJ2, "charAt", "([BI)C"⟩
abbrev cJ2_inflate_0e8fd : ByteArray := prog_35_method_86_code
def yJ2_inflate_0e8fd : MethodName := ⟨RJ2, "inflate", "([BI[BII)V"⟩
abbrev cJ2_getChars_ba4f3 : ByteArray := prog_35_method_89_code
def yJ2_getChars_ba4f3 : MethodName := ⟨RJ2, "getChars", "(II[B)I"⟩
abbrev cJ2_checkIndex_2214a : ByteArray := prog_35_method_91_code
def yJ2_checkIndex_2214a : MethodName := ⟨RJ2, "checkIndex", "(I[B)V"⟩
abbrev cJ2_checkBoundsBeginEnd_d044e : ByteArray := prog_35_method_93_code
def yJ2_checkBoundsBeginEnd_d044e : MethodName := ⟨RJ2, "checkBoundsBeginEnd", "(II[B)V"⟩
abbrev cJ2_checkBoundsOffCount_d044e : ByteArray := prog_35_method_94_code
def yJ2_checkBoundsOffCount_d044e : MethodName := ⟨RJ2, "checkBoundsOffCount", "(II[B)V"⟩
def RJ10 : String := "java/lang/System"
def TJ10 : u_T := fun k => match k with
  | _ => ("", "", "", false)
def tyJ10 : Nat → FieldType := fun k => match k with
  | _ => .int
abbrev wsJ100 : List Cond := u_ws RJ10 TJ10 0
theorem nmJ10 : ∀ a, a < 0 → ∀ b, b < 0 → a ≠ b → (TJ10 a).2.1 ≠ (TJ10 b).2.1 := by decide +kernel
theorem tyJ10_ok : ∀ k, k < 0 → parseFieldDescriptor (TJ10 k).2.2.1 = some (tyJ10 k) := by decide +kernel
def RJxfd54e : String := "java/lang/constant/Constable"
def TJxfd54e : u_T := fun k => match k with
  | _ => ("", "", "", false)
def tyJxfd54e : Nat → FieldType := fun k => match k with
  | _ => .int
abbrev wsJxfd54e0 : List Cond := u_ws RJxfd54e TJxfd54e 0
theorem nmJxfd54e : ∀ a, a < 0 → ∀ b, b < 0 → a ≠ b → (TJxfd54e a).2.1 ≠ (TJxfd54e b).2.1 := by decide +kernel
theorem tyJxfd54e_ok : ∀ k, k < 0 → parseFieldDescriptor (TJxfd54e k).2.2.1 = some (tyJxfd54e k) := by decide +kernel
def RJx3cf43 : String := "java/lang/constant/ConstantDesc"
def TJx3cf43 : u_T := fun k => match k with
  | _ => ("", "", "", false)
def tyJx3cf43 : Nat → FieldType := fun k => match k with
  | _ => .int
abbrev wsJx3cf430 : List Cond := u_ws RJx3cf43 TJx3cf43 0
theorem nmJx3cf43 : ∀ a, a < 0 → ∀ b, b < 0 → a ≠ b → (TJx3cf43 a).2.1 ≠ (TJx3cf43 b).2.1 := by decide +kernel
theorem tyJx3cf43_ok : ∀ k, k < 0 → parseFieldDescriptor (TJx3cf43 k).2.2.1 = some (tyJx3cf43 k) := by decide +kernel
def RJ7 : String := "java/util/Arrays"
def TJ7 : u_T := fun k => match k with
  | _ => ("", "", "", false)
def tyJ7 : Nat → FieldType := fun k => match k with
  | _ => .int
abbrev wsJ70 : List Cond := u_ws RJ7 TJ7 0
theorem nmJ7 : ∀ a, a < 0 → ∀ b, b < 0 → a ≠ b → (TJ7 a).2.1 ≠ (TJ7 b).2.1 := by decide +kernel
theorem tyJ7_ok : ∀ k, k < 0 → parseFieldDescriptor (TJ7 k).2.2.1 = some (tyJ7 k) := by decide +kernel
abbrev cJ7_rangeCheck_23922 : ByteArray := prog_41_method_30_code
def yJ7_rangeCheck_23922 : MethodName := ⟨RJ7, "rangeCheck", "(III)V"⟩
abbrev cJ7_fill_eb02e : ByteArray := prog_41_method_110_code
def yJ7_fill_eb02e : MethodName := ⟨RJ7, "fill", "([BIIB)V"⟩
abbrev cJ7_copyOf_9075b : ByteArray := prog_41_method_121_code
def yJ7_copyOf_9075b : MethodName := ⟨RJ7, "copyOf", "([BI)[B"⟩
abbrev cJ7_checkLength_df160 : ByteArray := prog_41_method_131_code
def yJ7_checkLength_df160 : MethodName := ⟨RJ7, "checkLength", "(II)V"⟩
abbrev cJ7_copyOfRange_39247 : ByteArray := prog_41_method_132_code
def yJ7_copyOfRange_39247 : MethodName := ⟨RJ7, "copyOfRange", "([BII)[B"⟩
abbrev cJ7_copyOfRangeByte_39247 : ByteArray := prog_41_method_133_code
def yJ7_copyOfRangeByte_39247 : MethodName := ⟨RJ7, "copyOfRangeByte", "([BII)[B"⟩
def RJ8 : String := "jdk/internal/util/ArraysSupport"
def TJ8 : u_T := fun k => match k with
  | _ => ("", "", "", false)
def tyJ8 : Nat → FieldType := fun k => match k with
  | _ => .int
abbrev wsJ80 : List Cond := u_ws RJ8 TJ8 0
theorem nmJ8 : ∀ a, a < 0 → ∀ b, b < 0 → a ≠ b → (TJ8 a).2.1 ≠ (TJ8 b).2.1 := by decide +kernel
theorem tyJ8_ok : ∀ k, k < 0 → parseFieldDescriptor (TJ8 k).2.2.1 = some (tyJ8 k) := by decide +kernel
abbrev cJ8_newLength_cabcc : ByteArray := prog_43_method_27_code
def yJ8_newLength_cabcc : MethodName := ⟨RJ8, "newLength", "(III)I"⟩
abbrev cJ8_hugeLength_7cf53 : ByteArray := prog_43_method_28_code
def yJ8_hugeLength_7cf53 : MethodName := ⟨RJ8, "hugeLength", "(II)I"⟩
def RJ3 : String := "jdk/internal/util/Preconditions"
def TJ3 : u_T := fun k => match k with
  | _ => ("", "", "", false)
def tyJ3 : Nat → FieldType := fun k => match k with
  | _ => .int
abbrev wsJ30 : List Cond := u_ws RJ3 TJ3 0
theorem nmJ3 : ∀ a, a < 0 → ∀ b, b < 0 → a ≠ b → (TJ3 a).2.1 ≠ (TJ3 b).2.1 := by decide +kernel
theorem tyJ3_ok : ∀ k, k < 0 → parseFieldDescriptor (TJ3 k).2.2.1 = some (tyJ3 k) := by decide +kernel
abbrev cJ3_checkIndex_8e157 : ByteArray := prog_44_method_11_code
def yJ3_checkIndex_8e157 : MethodName := ⟨RJ3, "checkIndex", "(IILjava/util/function/BiFunction;)I"⟩
abbrev cJ3_checkFromToIndex_8c36e : ByteArray := prog_44_method_12_code
def yJ3_checkFromToIndex_8c36e : MethodName := ⟨RJ3, "checkFromToIndex", "(IIILjava/util/function/BiFunction;)I"⟩
abbrev cJ3_checkFromIndexSize_8c36e : ByteArray := prog_44_method_13_code
def yJ3_checkFromIndexSize_8c36e : MethodName := ⟨RJ3, "checkFromIndexSize", "(IIILjava/util/function/BiFunction;)I"⟩
def RL : String := "CoolingPlannerLaw"
abbrev cL_at : ByteArray := method_2_code
def yL_at : MethodName := ⟨RL, "at", "([II)I"⟩
abbrev cL_some : ByteArray := method_3_code
def yL_some : MethodName := ⟨RL, "some", "(II)I"⟩
abbrev cL_addRack : ByteArray := method_4_code
def yL_addRack : MethodName := ⟨RL, "addRack", "(LCoolingPlanner;III)I"⟩
abbrev cL_removeRack : ByteArray := method_5_code
def yL_removeRack : MethodName := ⟨RL, "removeRack", "(LCoolingPlanner;I)I"⟩
abbrev cL_moveRack : ByteArray := method_6_code
def yL_moveRack : MethodName := ⟨RL, "moveRack", "(LCoolingPlanner;III)I"⟩
abbrev cL_setLoad : ByteArray := method_7_code
def yL_setLoad : MethodName := ⟨RL, "setLoad", "(LCoolingPlanner;II)I"⟩
abbrev cL_migrate : ByteArray := method_8_code
def yL_migrate : MethodName := ⟨RL, "migrate", "(LCoolingPlanner;III)I"⟩
abbrev cL_setFan : ByteArray := method_9_code
def yL_setFan : MethodName := ⟨RL, "setFan", "(LCoolingPlanner;II)I"⟩
abbrev cL_setCurve : ByteArray := method_10_code
def yL_setCurve : MethodName := ⟨RL, "setCurve", "(LCoolingPlanner;II)I"⟩
abbrev cL_setLimit : ByteArray := method_11_code
def yL_setLimit : MethodName := ⟨RL, "setLimit", "(LCoolingPlanner;I)I"⟩
abbrev cL_advance : ByteArray := method_12_code
def yL_advance : MethodName := ⟨RL, "advance", "(LCoolingPlanner;I)I"⟩
abbrev cL_aisleOf : ByteArray := method_13_code
def yL_aisleOf : MethodName := ⟨RL, "aisleOf", "(LCoolingPlanner;I)I"⟩
abbrev cL_placeOf : ByteArray := method_14_code
def yL_placeOf : MethodName := ⟨RL, "placeOf", "(LCoolingPlanner;I)I"⟩
abbrev cL_load : ByteArray := method_15_code
def yL_load : MethodName := ⟨RL, "load", "(LCoolingPlanner;I)I"⟩
abbrev cL_rackAt : ByteArray := method_16_code
def yL_rackAt : MethodName := ⟨RL, "rackAt", "(LCoolingPlanner;II)I"⟩
abbrev cL_heat : ByteArray := method_17_code
def yL_heat : MethodName := ⟨RL, "heat", "(LCoolingPlanner;I)I"⟩
abbrev cL_fan : ByteArray := method_18_code
def yL_fan : MethodName := ⟨RL, "fan", "(LCoolingPlanner;I)I"⟩
abbrev cL_curve : ByteArray := method_19_code
def yL_curve : MethodName := ⟨RL, "curve", "(LCoolingPlanner;I)I"⟩
abbrev cL_airflow : ByteArray := method_20_code
def yL_airflow : MethodName := ⟨RL, "airflow", "(LCoolingPlanner;I)F"⟩
abbrev cL_inlet : ByteArray := method_21_code
def yL_inlet : MethodName := ⟨RL, "inlet", "(LCoolingPlanner;I)F"⟩
abbrev cL_rise : ByteArray := method_22_code
def yL_rise : MethodName := ⟨RL, "rise", "(LCoolingPlanner;I)F"⟩
abbrev cL_temperature : ByteArray := method_23_code
def yL_temperature : MethodName := ⟨RL, "temperature", "(LCoolingPlanner;I)F"⟩
abbrev cL_isHot : ByteArray := method_24_code
def yL_isHot : MethodName := ⟨RL, "isHot", "(LCoolingPlanner;I)I"⟩
abbrev cL_needed : ByteArray := method_25_code
def yL_needed : MethodName := ⟨RL, "needed", "(LCoolingPlanner;I)I"⟩
abbrev cL_neededBySearch : ByteArray := method_26_code
def yL_neededBySearch : MethodName := ⟨RL, "neededBySearch", "(LCoolingPlanner;I)I"⟩
abbrev cL_untilHot : ByteArray := method_27_code
def yL_untilHot : MethodName := ⟨RL, "untilHot", "(LCoolingPlanner;I)I"⟩
abbrev cL_byTemperature : ByteArray := method_28_code
def yL_byTemperature : MethodName := ⟨RL, "byTemperature", "(LCoolingPlanner;I)I"⟩
abbrev cL_byHeat : ByteArray := method_29_code
def yL_byHeat : MethodName := ⟨RL, "byHeat", "(LCoolingPlanner;I)I"⟩
abbrev cL_stored : ByteArray := method_30_code
def yL_stored : MethodName := ⟨RL, "stored", "(LCoolingPlanner;I)I"⟩
abbrev cL_mean : ByteArray := method_31_code
def yL_mean : MethodName := ⟨RL, "mean", "(LCoolingPlanner;)D"⟩
abbrev cL_hotShare : ByteArray := method_32_code
def yL_hotShare : MethodName := ⟨RL, "hotShare", "(LCoolingPlanner;)F"⟩
abbrev cL_renderRack : ByteArray := method_33_code
def yL_renderRack : MethodName := ⟨RL, "renderRack", "(LCoolingPlanner;I)I"⟩
abbrev cL_renderAisle : ByteArray := method_34_code
def yL_renderAisle : MethodName := ⟨RL, "renderAisle", "(LCoolingPlanner;I)I"⟩
abbrev cL_outputAt : ByteArray := method_35_code
def yL_outputAt : MethodName := ⟨RL, "outputAt", "(LCoolingPlanner;I)I"⟩
abbrev cL_type : ByteArray := method_36_code
def yL_type : MethodName := ⟨RL, "type", "(LCoolingPlanner;C)I"⟩
abbrev cL_run : ByteArray := method_37_code
def yL_run : MethodName := ⟨RL, "run", "(LCoolingPlanner;)I"⟩
abbrev cL_errorPosition : ByteArray := method_38_code
def yL_errorPosition : MethodName := ⟨RL, "errorPosition", "(LCoolingPlanner;)I"⟩
abbrev cL_failedCommand : ByteArray := method_39_code
def yL_failedCommand : MethodName := ⟨RL, "failedCommand", "(LCoolingPlanner;)I"⟩
abbrev cL_undo : ByteArray := method_40_code
def yL_undo : MethodName := ⟨RL, "undo", "(LCoolingPlanner;)I"⟩
abbrev cL_restore : ByteArray := method_41_code
def yL_restore : MethodName := ⟨RL, "restore", "(LCoolingPlanner;)I"⟩
abbrev cL_runs : ByteArray := method_42_code
def yL_runs : MethodName := ⟨RL, "runs", "(LCoolingPlanner;Ljava/lang/String;)I"⟩
abbrev cL_makes : ByteArray := method_44_code
def yL_makes : MethodName := ⟨RL, "makes", "(LCoolingPlanner;[I)Z"⟩
abbrev cL_asks : ByteArray := method_45_code
def yL_asks : MethodName := ⟨RL, "asks", "(LCoolingPlanner;)J"⟩
abbrev cL_changes : ByteArray := method_46_code
def yL_changes : MethodName := ⟨RL, "changes", "(LCoolingPlanner;I)Z"⟩
abbrev cL_thrown : ByteArray := method_47_code
def yL_thrown : MethodName := ⟨RL, "thrown", "(LCoolingPlanner;)Z"⟩
abbrev cL_law : ByteArray := code
def yL_law : MethodName := ⟨RL, "law", "([I)Z"⟩
theorem dX1_init_0 : decode cX1_init 0 = .ok (.aload_n 0, 1) := by decide +kernel
theorem dX1_init_1 : decode cX1_init 1 = .ok (.invokespecial 3, 3) := by decide +kernel
theorem dX1_init_4 : decode cX1_init 4 = .ok (.aload_n 0, 1) := by decide +kernel
theorem dX1_init_5 : decode cX1_init 5 = .ok (.new 9, 3) := by decide +kernel
theorem dX1_init_8 : decode cX1_init 8 = .ok (.dup, 1) := by decide +kernel
theorem dX1_init_9 : decode cX1_init 9 = .ok (.invokespecial 11, 3) := by decide +kernel
theorem dX1_init_12 : decode cX1_init 12 = .ok (.putfield 12, 3) := by decide +kernel
theorem dX1_init_15 : decode cX1_init 15 = .ok (.aload_n 0, 1) := by decide +kernel
theorem dX1_init_16 : decode cX1_init 16 = .ok (.new 18, 3) := by decide +kernel
theorem dX1_init_19 : decode cX1_init 19 = .ok (.dup, 1) := by decide +kernel
theorem dX1_init_20 : decode cX1_init 20 = .ok (.invokespecial 20, 3) := by decide +kernel
theorem dX1_init_23 : decode cX1_init 23 = .ok (.putfield 21, 3) := by decide +kernel
theorem dX1_init_26 : decode cX1_init 26 = .ok (.aload_n 0, 1) := by decide +kernel
theorem dX1_init_27 : decode cX1_init 27 = .ok (.iconst 4, 1) := by decide +kernel
theorem dX1_init_28 : decode cX1_init 28 = .ok (.newarray .int, 2) := by decide +kernel
theorem dX1_init_30 : decode cX1_init 30 = .ok (.putfield 25, 3) := by decide +kernel
theorem dX1_init_33 : decode cX1_init 33 = .ok (.aload_n 0, 1) := by decide +kernel
theorem dX1_init_34 : decode cX1_init 34 = .ok (.bipush 27, 2) := by decide +kernel
theorem dX1_init_36 : decode cX1_init 36 = .ok (.putfield 29, 3) := by decide +kernel
theorem dX1_init_39 : decode cX1_init 39 = .ok (.aload_n 0, 1) := by decide +kernel
theorem dX1_init_40 : decode cX1_init 40 = .ok (.bipush 12, 2) := by decide +kernel
theorem dX1_init_42 : decode cX1_init 42 = .ok (.newarray .float, 2) := by decide +kernel
theorem dX1_init_44 : decode cX1_init 44 = .ok (.putfield 33, 3) := by decide +kernel
theorem dX1_init_47 : decode cX1_init 47 = .ok (.return_, 1) := by decide +kernel
theorem dX1_copyFrom_0 : decode cX1_copyFrom 0 = .ok (.aload_n 0, 1) := by decide +kernel
theorem dX1_copyFrom_1 : decode cX1_copyFrom 1 = .ok (.getfield 12, 3) := by decide +kernel
theorem dX1_copyFrom_4 : decode cX1_copyFrom 4 = .ok (.aload_n 1, 1) := by decide +kernel
theorem dX1_copyFrom_5 : decode cX1_copyFrom 5 = .ok (.getfield 12, 3) := by decide +kernel
theorem dX1_copyFrom_8 : decode cX1_copyFrom 8 = .ok (.invokevirtual 37, 3) := by decide +kernel
theorem dX1_copyFrom_11 : decode cX1_copyFrom 11 = .ok (.aload_n 0, 1) := by decide +kernel
theorem dX1_copyFrom_12 : decode cX1_copyFrom 12 = .ok (.getfield 21, 3) := by decide +kernel
theorem dX1_copyFrom_15 : decode cX1_copyFrom 15 = .ok (.aload_n 1, 1) := by decide +kernel
theorem dX1_copyFrom_16 : decode cX1_copyFrom 16 = .ok (.getfield 21, 3) := by decide +kernel
theorem dX1_copyFrom_19 : decode cX1_copyFrom 19 = .ok (.invokevirtual 41, 3) := by decide +kernel
theorem dX1_copyFrom_22 : decode cX1_copyFrom 22 = .ok (.aload_n 1, 1) := by decide +kernel
theorem dX1_copyFrom_23 : decode cX1_copyFrom 23 = .ok (.getfield 25, 3) := by decide +kernel
theorem dX1_copyFrom_26 : decode cX1_copyFrom 26 = .ok (.aload_n 0, 1) := by decide +kernel
theorem dX1_copyFrom_27 : decode cX1_copyFrom 27 = .ok (.getfield 25, 3) := by decide +kernel
theorem dX1_copyFrom_30 : decode cX1_copyFrom 30 = .ok (.invokestatic 44, 3) := by decide +kernel
theorem dX1_copyFrom_33 : decode cX1_copyFrom 33 = .ok (.aload_n 0, 1) := by decide +kernel
theorem dX1_copyFrom_34 : decode cX1_copyFrom 34 = .ok (.aload_n 1, 1) := by decide +kernel
theorem dX1_copyFrom_35 : decode cX1_copyFrom 35 = .ok (.getfield 29, 3) := by decide +kernel
theorem dX1_copyFrom_38 : decode cX1_copyFrom 38 = .ok (.putfield 29, 3) := by decide +kernel
theorem dX1_copyFrom_41 : decode cX1_copyFrom 41 = .ok (.aload_n 0, 1) := by decide +kernel
theorem dX1_copyFrom_42 : decode cX1_copyFrom 42 = .ok (.aload_n 1, 1) := by decide +kernel
theorem dX1_copyFrom_43 : decode cX1_copyFrom 43 = .ok (.getfield 48, 3) := by decide +kernel
theorem dX1_copyFrom_46 : decode cX1_copyFrom 46 = .ok (.putfield 48, 3) := by decide +kernel
theorem dX1_copyFrom_49 : decode cX1_copyFrom 49 = .ok (.aload_n 0, 1) := by decide +kernel
theorem dX1_copyFrom_50 : decode cX1_copyFrom 50 = .ok (.aload_n 1, 1) := by decide +kernel
theorem dX1_copyFrom_51 : decode cX1_copyFrom 51 = .ok (.getfield 51, 3) := by decide +kernel
theorem dX1_copyFrom_54 : decode cX1_copyFrom 54 = .ok (.putfield 51, 3) := by decide +kernel
theorem dX1_copyFrom_57 : decode cX1_copyFrom 57 = .ok (.aload_n 0, 1) := by decide +kernel
theorem dX1_copyFrom_58 : decode cX1_copyFrom 58 = .ok (.aload_n 1, 1) := by decide +kernel
theorem dX1_copyFrom_59 : decode cX1_copyFrom 59 = .ok (.getfield 54, 3) := by decide +kernel
theorem dX1_copyFrom_62 : decode cX1_copyFrom 62 = .ok (.putfield 54, 3) := by decide +kernel
theorem dX1_copyFrom_65 : decode cX1_copyFrom 65 = .ok (.aload_n 0, 1) := by decide +kernel
theorem dX1_copyFrom_66 : decode cX1_copyFrom 66 = .ok (.aload_n 1, 1) := by decide +kernel
theorem dX1_copyFrom_67 : decode cX1_copyFrom 67 = .ok (.getfield 57, 3) := by decide +kernel
theorem dX1_copyFrom_70 : decode cX1_copyFrom 70 = .ok (.putfield 57, 3) := by decide +kernel
theorem dX1_copyFrom_73 : decode cX1_copyFrom 73 = .ok (.return_, 1) := by decide +kernel
theorem dX1_add_0 : decode cX1_add 0 = .ok (.iload_n 1, 1) := by decide +kernel
theorem dX1_add_1 : decode cX1_add 1 = .ok (.invokestatic 60, 3) := by decide +kernel
theorem dX1_add_4 : decode cX1_add 4 = .ok (.ifCond .ne 5, 3) := by decide +kernel
theorem dX1_add_7 : decode cX1_add 7 = .ok (.iconst (-1), 1) := by decide +kernel
theorem dX1_add_8 : decode cX1_add 8 = .ok (.ireturn, 1) := by decide +kernel
theorem dX1_add_9 : decode cX1_add 9 = .ok (.iload_n 2, 1) := by decide +kernel
theorem dX1_add_10 : decode cX1_add 10 = .ok (.invokestatic 64, 3) := by decide +kernel
theorem dX1_add_13 : decode cX1_add 13 = .ok (.ifCond .eq 10, 3) := by decide +kernel
theorem dX1_add_16 : decode cX1_add 16 = .ok (.iload_n 3, 1) := by decide +kernel
theorem dX1_add_17 : decode cX1_add 17 = .ok (.invokestatic 67, 3) := by decide +kernel
theorem dX1_add_20 : decode cX1_add 20 = .ok (.ifCond .ne 6, 3) := by decide +kernel
theorem dX1_add_23 : decode cX1_add 23 = .ok (.bipush (-2), 2) := by decide +kernel
theorem dX1_add_25 : decode cX1_add 25 = .ok (.ireturn, 1) := by decide +kernel
theorem dX1_add_26 : decode cX1_add 26 = .ok (.aload_n 0, 1) := by decide +kernel
theorem dX1_add_27 : decode cX1_add 27 = .ok (.getfield 12, 3) := by decide +kernel
theorem dX1_add_30 : decode cX1_add 30 = .ok (.invokevirtual 70, 3) := by decide +kernel
theorem dX1_add_33 : decode cX1_add 33 = .ok (.ifCond .eq 6, 3) := by decide +kernel
theorem dX1_add_36 : decode cX1_add 36 = .ok (.bipush (-3), 2) := by decide +kernel
theorem dX1_add_38 : decode cX1_add 38 = .ok (.ireturn, 1) := by decide +kernel
theorem dX1_add_39 : decode cX1_add 39 = .ok (.aload_n 0, 1) := by decide +kernel
theorem dX1_add_40 : decode cX1_add 40 = .ok (.getfield 12, 3) := by decide +kernel
theorem dX1_add_43 : decode cX1_add 43 = .ok (.iload_n 1, 1) := by decide +kernel
theorem dX1_add_44 : decode cX1_add 44 = .ok (.iload_n 2, 1) := by decide +kernel
theorem dX1_add_45 : decode cX1_add 45 = .ok (.invokevirtual 74, 3) := by decide +kernel
theorem dX1_add_48 : decode cX1_add 48 = .ok (.iconst (-1), 1) := by decide +kernel
theorem dX1_add_49 : decode cX1_add 49 = .ok (.if_icmp .eq 6, 3) := by decide +kernel
theorem dX1_add_52 : decode cX1_add 52 = .ok (.bipush (-4), 2) := by decide +kernel
theorem dX1_add_54 : decode cX1_add 54 = .ok (.ireturn, 1) := by decide +kernel
theorem dX1_add_55 : decode cX1_add 55 = .ok (.aload_n 0, 1) := by decide +kernel
theorem dX1_add_56 : decode cX1_add 56 = .ok (.getfield 12, 3) := by decide +kernel
theorem dX1_add_59 : decode cX1_add 59 = .ok (.iload_n 1, 1) := by decide +kernel
theorem dX1_add_60 : decode cX1_add 60 = .ok (.iload_n 2, 1) := by decide +kernel
theorem dX1_add_61 : decode cX1_add 61 = .ok (.iload_n 3, 1) := by decide +kernel
theorem dX1_add_62 : decode cX1_add 62 = .ok (.invokevirtual 78, 3) := by decide +kernel
theorem dX1_add_65 : decode cX1_add 65 = .ok (.ireturn, 1) := by decide +kernel
theorem dX1_remove_0 : decode cX1_remove 0 = .ok (.aload_n 0, 1) := by decide +kernel
theorem dX1_remove_1 : decode cX1_remove 1 = .ok (.getfield 12, 3) := by decide +kernel
theorem dX1_remove_4 : decode cX1_remove 4 = .ok (.iload_n 1, 1) := by decide +kernel
theorem dX1_remove_5 : decode cX1_remove 5 = .ok (.invokevirtual 82, 3) := by decide +kernel
theorem dX1_remove_8 : decode cX1_remove 8 = .ok (.ifnonnull 5, 3) := by decide +kernel
theorem dX1_remove_11 : decode cX1_remove 11 = .ok (.iconst (-1), 1) := by decide +kernel
theorem dX1_remove_12 : decode cX1_remove 12 = .ok (.ireturn, 1) := by decide +kernel
theorem dX1_remove_13 : decode cX1_remove 13 = .ok (.aload_n 0, 1) := by decide +kernel
theorem dX1_remove_14 : decode cX1_remove 14 = .ok (.getfield 12, 3) := by decide +kernel
theorem dX1_remove_17 : decode cX1_remove 17 = .ok (.iload_n 1, 1) := by decide +kernel
theorem dX1_remove_18 : decode cX1_remove 18 = .ok (.invokevirtual 86, 3) := by decide +kernel
theorem dX1_remove_21 : decode cX1_remove 21 = .ok (.aload_n 0, 1) := by decide +kernel
theorem dX1_remove_22 : decode cX1_remove 22 = .ok (.getfield 12, 3) := by decide +kernel
theorem dX1_remove_25 : decode cX1_remove 25 = .ok (.getfield 90, 3) := by decide +kernel
theorem dX1_remove_28 : decode cX1_remove 28 = .ok (.ireturn, 1) := by decide +kernel
theorem dX1_move_0 : decode cX1_move 0 = .ok (.aload_n 0, 1) := by decide +kernel
theorem dX1_move_1 : decode cX1_move 1 = .ok (.getfield 12, 3) := by decide +kernel
theorem dX1_move_4 : decode cX1_move 4 = .ok (.iload_n 1, 1) := by decide +kernel
theorem dX1_move_5 : decode cX1_move 5 = .ok (.invokevirtual 82, 3) := by decide +kernel
theorem dX1_move_8 : decode cX1_move 8 = .ok (.astore 4, 2) := by decide +kernel
theorem dX1_move_10 : decode cX1_move 10 = .ok (.aload 4, 2) := by decide +kernel
theorem dX1_move_12 : decode cX1_move 12 = .ok (.ifnull 10, 3) := by decide +kernel
theorem dX1_move_15 : decode cX1_move 15 = .ok (.iload_n 2, 1) := by decide +kernel
theorem dX1_move_16 : decode cX1_move 16 = .ok (.invokestatic 60, 3) := by decide +kernel
theorem dX1_move_19 : decode cX1_move 19 = .ok (.ifCond .ne 5, 3) := by decide +kernel
theorem dX1_move_22 : decode cX1_move 22 = .ok (.iconst (-1), 1) := by decide +kernel
theorem dX1_move_23 : decode cX1_move 23 = .ok (.ireturn, 1) := by decide +kernel
theorem dX1_move_24 : decode cX1_move 24 = .ok (.iload_n 3, 1) := by decide +kernel
theorem dX1_move_25 : decode cX1_move 25 = .ok (.invokestatic 64, 3) := by decide +kernel
theorem dX1_move_28 : decode cX1_move 28 = .ok (.ifCond .ne 6, 3) := by decide +kernel
theorem dX1_move_31 : decode cX1_move 31 = .ok (.bipush (-2), 2) := by decide +kernel
theorem dX1_move_33 : decode cX1_move 33 = .ok (.ireturn, 1) := by decide +kernel
theorem dX1_move_34 : decode cX1_move 34 = .ok (.aload_n 0, 1) := by decide +kernel
theorem dX1_move_35 : decode cX1_move 35 = .ok (.getfield 12, 3) := by decide +kernel
theorem dX1_move_38 : decode cX1_move 38 = .ok (.iload_n 2, 1) := by decide +kernel
theorem dX1_move_39 : decode cX1_move 39 = .ok (.iload_n 3, 1) := by decide +kernel
theorem dX1_move_40 : decode cX1_move 40 = .ok (.invokevirtual 74, 3) := by decide +kernel
theorem dX1_move_43 : decode cX1_move 43 = .ok (.iconst (-1), 1) := by decide +kernel
theorem dX1_move_44 : decode cX1_move 44 = .ok (.if_icmp .eq 6, 3) := by decide +kernel
theorem dX1_move_47 : decode cX1_move 47 = .ok (.bipush (-4), 2) := by decide +kernel
theorem dX1_move_49 : decode cX1_move 49 = .ok (.ireturn, 1) := by decide +kernel
theorem dX1_move_50 : decode cX1_move 50 = .ok (.aload 4, 2) := by decide +kernel
theorem dX1_move_52 : decode cX1_move 52 = .ok (.getfield 93, 3) := by decide +kernel
theorem dX1_move_55 : decode cX1_move 55 = .ok (.istore 5, 2) := by decide +kernel
theorem dX1_move_57 : decode cX1_move 57 = .ok (.aload 4, 2) := by decide +kernel
theorem dX1_move_59 : decode cX1_move 59 = .ok (.iload_n 2, 1) := by decide +kernel
theorem dX1_move_60 : decode cX1_move 60 = .ok (.putfield 93, 3) := by decide +kernel
theorem dX1_move_63 : decode cX1_move 63 = .ok (.aload 4, 2) := by decide +kernel
theorem dX1_move_65 : decode cX1_move 65 = .ok (.iload_n 3, 1) := by decide +kernel
theorem dX1_move_66 : decode cX1_move 66 = .ok (.putfield 98, 3) := by decide +kernel
theorem dX1_move_69 : decode cX1_move 69 = .ok (.iload 5, 2) := by decide +kernel
theorem dX1_move_71 : decode cX1_move 71 = .ok (.ireturn, 1) := by decide +kernel
theorem dX1_changeLoad_0 : decode cX1_changeLoad 0 = .ok (.aload_n 0, 1) := by decide +kernel
theorem dX1_changeLoad_1 : decode cX1_changeLoad 1 = .ok (.getfield 12, 3) := by decide +kernel
theorem dX1_changeLoad_4 : decode cX1_changeLoad 4 = .ok (.iload_n 1, 1) := by decide +kernel
theorem dX1_changeLoad_5 : decode cX1_changeLoad 5 = .ok (.invokevirtual 82, 3) := by decide +kernel
theorem dX1_changeLoad_8 : decode cX1_changeLoad 8 = .ok (.astore_n 3, 1) := by decide +kernel
theorem dX1_changeLoad_9 : decode cX1_changeLoad 9 = .ok (.aload_n 3, 1) := by decide +kernel
theorem dX1_changeLoad_10 : decode cX1_changeLoad 10 = .ok (.ifnonnull 5, 3) := by decide +kernel
theorem dX1_changeLoad_13 : decode cX1_changeLoad 13 = .ok (.iconst (-1), 1) := by decide +kernel
theorem dX1_changeLoad_14 : decode cX1_changeLoad 14 = .ok (.ireturn, 1) := by decide +kernel
theorem dX1_changeLoad_15 : decode cX1_changeLoad 15 = .ok (.iload_n 2, 1) := by decide +kernel
theorem dX1_changeLoad_16 : decode cX1_changeLoad 16 = .ok (.invokestatic 67, 3) := by decide +kernel
theorem dX1_changeLoad_19 : decode cX1_changeLoad 19 = .ok (.ifCond .ne 6, 3) := by decide +kernel
theorem dX1_changeLoad_22 : decode cX1_changeLoad 22 = .ok (.bipush (-2), 2) := by decide +kernel
theorem dX1_changeLoad_24 : decode cX1_changeLoad 24 = .ok (.ireturn, 1) := by decide +kernel
theorem dX1_changeLoad_25 : decode cX1_changeLoad 25 = .ok (.aload_n 3, 1) := by decide +kernel
theorem dX1_changeLoad_26 : decode cX1_changeLoad 26 = .ok (.getfield 101, 3) := by decide +kernel
theorem dX1_changeLoad_29 : decode cX1_changeLoad 29 = .ok (.istore 4, 2) := by decide +kernel
theorem dX1_changeLoad_31 : decode cX1_changeLoad 31 = .ok (.aload_n 3, 1) := by decide +kernel
theorem dX1_changeLoad_32 : decode cX1_changeLoad 32 = .ok (.iload_n 2, 1) := by decide +kernel
theorem dX1_changeLoad_33 : decode cX1_changeLoad 33 = .ok (.putfield 101, 3) := by decide +kernel
theorem dX1_changeLoad_36 : decode cX1_changeLoad 36 = .ok (.iload 4, 2) := by decide +kernel
theorem dX1_changeLoad_38 : decode cX1_changeLoad 38 = .ok (.ireturn, 1) := by decide +kernel
theorem dX1_send_0 : decode cX1_send 0 = .ok (.aload_n 0, 1) := by decide +kernel
theorem dX1_send_1 : decode cX1_send 1 = .ok (.getfield 12, 3) := by decide +kernel
theorem dX1_send_4 : decode cX1_send 4 = .ok (.iload_n 1, 1) := by decide +kernel
theorem dX1_send_5 : decode cX1_send 5 = .ok (.invokevirtual 82, 3) := by decide +kernel
theorem dX1_send_8 : decode cX1_send 8 = .ok (.astore 4, 2) := by decide +kernel
theorem dX1_send_10 : decode cX1_send 10 = .ok (.aload_n 0, 1) := by decide +kernel
theorem dX1_send_11 : decode cX1_send 11 = .ok (.getfield 12, 3) := by decide +kernel
theorem dX1_send_14 : decode cX1_send 14 = .ok (.iload_n 2, 1) := by decide +kernel
theorem dX1_send_15 : decode cX1_send 15 = .ok (.invokevirtual 82, 3) := by decide +kernel
theorem dX1_send_18 : decode cX1_send 18 = .ok (.astore 5, 2) := by decide +kernel
theorem dX1_send_20 : decode cX1_send 20 = .ok (.aload 4, 2) := by decide +kernel
theorem dX1_send_22 : decode cX1_send 22 = .ok (.ifnull 8, 3) := by decide +kernel
theorem dX1_send_25 : decode cX1_send 25 = .ok (.aload 5, 2) := by decide +kernel
theorem dX1_send_27 : decode cX1_send 27 = .ok (.ifnonnull 5, 3) := by decide +kernel
theorem dX1_send_30 : decode cX1_send 30 = .ok (.iconst (-1), 1) := by decide +kernel
theorem dX1_send_31 : decode cX1_send 31 = .ok (.ireturn, 1) := by decide +kernel
theorem dX1_send_32 : decode cX1_send 32 = .ok (.iload_n 1, 1) := by decide +kernel
theorem dX1_send_33 : decode cX1_send 33 = .ok (.iload_n 2, 1) := by decide +kernel
theorem dX1_send_34 : decode cX1_send 34 = .ok (.if_icmp .eq 13, 3) := by decide +kernel
theorem dX1_send_37 : decode cX1_send 37 = .ok (.iload_n 3, 1) := by decide +kernel
theorem dX1_send_38 : decode cX1_send 38 = .ok (.iconst 1, 1) := by decide +kernel
theorem dX1_send_39 : decode cX1_send 39 = .ok (.bipush 20, 2) := by decide +kernel
theorem dX1_send_41 : decode cX1_send 41 = .ok (.invokestatic 104, 3) := by decide +kernel
theorem dX1_send_44 : decode cX1_send 44 = .ok (.ifCond .ne 6, 3) := by decide +kernel
theorem dX1_send_47 : decode cX1_send 47 = .ok (.bipush (-2), 2) := by decide +kernel
theorem dX1_send_49 : decode cX1_send 49 = .ok (.ireturn, 1) := by decide +kernel
theorem dX1_send_50 : decode cX1_send 50 = .ok (.aload 4, 2) := by decide +kernel
theorem dX1_send_52 : decode cX1_send 52 = .ok (.getfield 101, 3) := by decide +kernel
theorem dX1_send_55 : decode cX1_send 55 = .ok (.iload_n 3, 1) := by decide +kernel
theorem dX1_send_56 : decode cX1_send 56 = .ok (.if_icmp .lt 15, 3) := by decide +kernel
theorem dX1_send_59 : decode cX1_send 59 = .ok (.aload 5, 2) := by decide +kernel
theorem dX1_send_61 : decode cX1_send 61 = .ok (.getfield 101, 3) := by decide +kernel
theorem dX1_send_64 : decode cX1_send 64 = .ok (.iload_n 3, 1) := by decide +kernel
theorem dX1_send_65 : decode cX1_send 65 = .ok (.iadd, 1) := by decide +kernel
theorem dX1_send_66 : decode cX1_send 66 = .ok (.bipush 20, 2) := by decide +kernel
theorem dX1_send_68 : decode cX1_send 68 = .ok (.if_icmp .le 6, 3) := by decide +kernel
theorem dX1_send_71 : decode cX1_send 71 = .ok (.bipush (-4), 2) := by decide +kernel
theorem dX1_send_73 : decode cX1_send 73 = .ok (.ireturn, 1) := by decide +kernel
theorem dX1_send_74 : decode cX1_send 74 = .ok (.aload 4, 2) := by decide +kernel
theorem dX1_send_76 : decode cX1_send 76 = .ok (.dup, 1) := by decide +kernel
theorem dX1_send_77 : decode cX1_send 77 = .ok (.getfield 101, 3) := by decide +kernel
theorem dX1_send_80 : decode cX1_send 80 = .ok (.iload_n 3, 1) := by decide +kernel
theorem dX1_send_81 : decode cX1_send 81 = .ok (.isub, 1) := by decide +kernel
theorem dX1_send_82 : decode cX1_send 82 = .ok (.putfield 101, 3) := by decide +kernel
theorem dX1_send_85 : decode cX1_send 85 = .ok (.aload 5, 2) := by decide +kernel
theorem dX1_send_87 : decode cX1_send 87 = .ok (.dup, 1) := by decide +kernel
theorem dX1_send_88 : decode cX1_send 88 = .ok (.getfield 101, 3) := by decide +kernel
theorem dX1_send_91 : decode cX1_send 91 = .ok (.iload_n 3, 1) := by decide +kernel
theorem dX1_send_92 : decode cX1_send 92 = .ok (.iadd, 1) := by decide +kernel
theorem dX1_send_93 : decode cX1_send 93 = .ok (.putfield 101, 3) := by decide +kernel
theorem dX1_send_96 : decode cX1_send 96 = .ok (.aload 5, 2) := by decide +kernel
theorem dX1_send_98 : decode cX1_send 98 = .ok (.getfield 101, 3) := by decide +kernel
theorem dX1_send_101 : decode cX1_send 101 = .ok (.ireturn, 1) := by decide +kernel
theorem dX1_changeLimit_0 : decode cX1_changeLimit 0 = .ok (.iload_n 1, 1) := by decide +kernel
theorem dX1_changeLimit_1 : decode cX1_changeLimit 1 = .ok (.bipush 20, 2) := by decide +kernel
theorem dX1_changeLimit_3 : decode cX1_changeLimit 3 = .ok (.bipush 60, 2) := by decide +kernel
theorem dX1_changeLimit_5 : decode cX1_changeLimit 5 = .ok (.invokestatic 104, 3) := by decide +kernel
theorem dX1_changeLimit_8 : decode cX1_changeLimit 8 = .ok (.ifCond .ne 6, 3) := by decide +kernel
theorem dX1_changeLimit_11 : decode cX1_changeLimit 11 = .ok (.bipush (-2), 2) := by decide +kernel
theorem dX1_changeLimit_13 : decode cX1_changeLimit 13 = .ok (.ireturn, 1) := by decide +kernel
theorem dX1_changeLimit_14 : decode cX1_changeLimit 14 = .ok (.aload_n 0, 1) := by decide +kernel
theorem dX1_changeLimit_15 : decode cX1_changeLimit 15 = .ok (.getfield 29, 3) := by decide +kernel
theorem dX1_changeLimit_18 : decode cX1_changeLimit 18 = .ok (.istore_n 2, 1) := by decide +kernel
theorem dX1_changeLimit_19 : decode cX1_changeLimit 19 = .ok (.aload_n 0, 1) := by decide +kernel
theorem dX1_changeLimit_20 : decode cX1_changeLimit 20 = .ok (.iload_n 1, 1) := by decide +kernel
theorem dX1_changeLimit_21 : decode cX1_changeLimit 21 = .ok (.putfield 29, 3) := by decide +kernel
theorem dX1_changeLimit_24 : decode cX1_changeLimit 24 = .ok (.iload_n 2, 1) := by decide +kernel
theorem dX1_changeLimit_25 : decode cX1_changeLimit 25 = .ok (.ireturn, 1) := by decide +kernel
theorem dX1_pass_0 : decode cX1_pass 0 = .ok (.iload_n 1, 1) := by decide +kernel
theorem dX1_pass_1 : decode cX1_pass 1 = .ok (.iconst 1, 1) := by decide +kernel
theorem dX1_pass_2 : decode cX1_pass 2 = .ok (.bipush 60, 2) := by decide +kernel
theorem dX1_pass_4 : decode cX1_pass 4 = .ok (.invokestatic 104, 3) := by decide +kernel
theorem dX1_pass_7 : decode cX1_pass 7 = .ok (.ifCond .ne 6, 3) := by decide +kernel
theorem dX1_pass_10 : decode cX1_pass 10 = .ok (.bipush (-2), 2) := by decide +kernel
theorem dX1_pass_12 : decode cX1_pass 12 = .ok (.ireturn, 1) := by decide +kernel
theorem dX1_pass_13 : decode cX1_pass 13 = .ok (.iconst 0, 1) := by decide +kernel
theorem dX1_pass_14 : decode cX1_pass 14 = .ok (.istore_n 2, 1) := by decide +kernel
theorem dX1_pass_15 : decode cX1_pass 15 = .ok (.iload_n 2, 1) := by decide +kernel
theorem dX1_pass_16 : decode cX1_pass 16 = .ok (.iconst 4, 1) := by decide +kernel
theorem dX1_pass_17 : decode cX1_pass 17 = .ok (.if_icmp .ge 15, 3) := by decide +kernel
theorem dX1_pass_20 : decode cX1_pass 20 = .ok (.aload_n 0, 1) := by decide +kernel
theorem dX1_pass_21 : decode cX1_pass 21 = .ok (.iload_n 2, 1) := by decide +kernel
theorem dX1_pass_22 : decode cX1_pass 22 = .ok (.iload_n 1, 1) := by decide +kernel
theorem dX1_pass_23 : decode cX1_pass 23 = .ok (.invokevirtual 108, 3) := by decide +kernel
theorem dX1_pass_26 : decode cX1_pass 26 = .ok (.iinc 2 1, 3) := by decide +kernel
theorem dX1_pass_29 : decode cX1_pass 29 = .ok (.goto (-14), 3) := by decide +kernel
theorem dX1_pass_32 : decode cX1_pass 32 = .ok (.aload_n 0, 1) := by decide +kernel
theorem dX1_pass_33 : decode cX1_pass 33 = .ok (.dup, 1) := by decide +kernel
theorem dX1_pass_34 : decode cX1_pass 34 = .ok (.getfield 48, 3) := by decide +kernel
theorem dX1_pass_37 : decode cX1_pass 37 = .ok (.iload_n 1, 1) := by decide +kernel
theorem dX1_pass_38 : decode cX1_pass 38 = .ok (.iadd, 1) := by decide +kernel
theorem dX1_pass_39 : decode cX1_pass 39 = .ok (.putfield 48, 3) := by decide +kernel
theorem dX1_pass_42 : decode cX1_pass 42 = .ok (.iload_n 1, 1) := by decide +kernel
theorem dX1_pass_43 : decode cX1_pass 43 = .ok (.ireturn, 1) := by decide +kernel
theorem dX1_passIn_0 : decode cX1_passIn 0 = .ok (.aload_n 0, 1) := by decide +kernel
theorem dX1_passIn_1 : decode cX1_passIn 1 = .ok (.getfield 12, 3) := by decide +kernel
theorem dX1_passIn_4 : decode cX1_passIn 4 = .ok (.iload_n 1, 1) := by decide +kernel
theorem dX1_passIn_5 : decode cX1_passIn 5 = .ok (.invokevirtual 112, 3) := by decide +kernel
theorem dX1_passIn_8 : decode cX1_passIn 8 = .ok (.istore_n 3, 1) := by decide +kernel
theorem dX1_passIn_9 : decode cX1_passIn 9 = .ok (.aload_n 0, 1) := by decide +kernel
theorem dX1_passIn_10 : decode cX1_passIn 10 = .ok (.getfield 21, 3) := by decide +kernel
theorem dX1_passIn_13 : decode cX1_passIn 13 = .ok (.iload_n 1, 1) := by decide +kernel
theorem dX1_passIn_14 : decode cX1_passIn 14 = .ok (.invokevirtual 116, 3) := by decide +kernel
theorem dX1_passIn_17 : decode cX1_passIn 17 = .ok (.istore 4, 2) := by decide +kernel
theorem dX1_passIn_19 : decode cX1_passIn 19 = .ok (.aload_n 0, 1) := by decide +kernel
theorem dX1_passIn_20 : decode cX1_passIn 20 = .ok (.getfield 21, 3) := by decide +kernel
theorem dX1_passIn_23 : decode cX1_passIn 23 = .ok (.iload 4, 2) := by decide +kernel
theorem dX1_passIn_25 : decode cX1_passIn 25 = .ok (.invokevirtual 119, 3) := by decide +kernel
theorem dX1_passIn_28 : decode cX1_passIn 28 = .ok (.f2i, 1) := by decide +kernel
theorem dX1_passIn_29 : decode cX1_passIn 29 = .ok (.istore 5, 2) := by decide +kernel
theorem dX1_passIn_31 : decode cX1_passIn 31 = .ok (.aload_n 0, 1) := by decide +kernel
theorem dX1_passIn_32 : decode cX1_passIn 32 = .ok (.getfield 25, 3) := by decide +kernel
theorem dX1_passIn_35 : decode cX1_passIn 35 = .ok (.iload_n 1, 1) := by decide +kernel
theorem dX1_passIn_36 : decode cX1_passIn 36 = .ok (.invokestatic 123, 3) := by decide +kernel
theorem dX1_passIn_39 : decode cX1_passIn 39 = .ok (.istore 6, 2) := by decide +kernel
theorem dX1_passIn_41 : decode cX1_passIn 41 = .ok (.iconst 0, 1) := by decide +kernel
theorem dX1_passIn_42 : decode cX1_passIn 42 = .ok (.istore 7, 2) := by decide +kernel
theorem dX1_passIn_44 : decode cX1_passIn 44 = .ok (.iload 7, 2) := by decide +kernel
theorem dX1_passIn_46 : decode cX1_passIn 46 = .ok (.iload_n 2, 1) := by decide +kernel
theorem dX1_passIn_47 : decode cX1_passIn 47 = .ok (.if_icmp .ge 67, 3) := by decide +kernel
theorem dX1_passIn_50 : decode cX1_passIn 50 = .ok (.iload 6, 2) := by decide +kernel
theorem dX1_passIn_52 : decode cX1_passIn 52 = .ok (.iload_n 3, 1) := by decide +kernel
theorem dX1_passIn_53 : decode cX1_passIn 53 = .ok (.iadd, 1) := by decide +kernel
theorem dX1_passIn_54 : decode cX1_passIn 54 = .ok (.iload 5, 2) := by decide +kernel
theorem dX1_passIn_56 : decode cX1_passIn 56 = .ok (.invokestatic 127, 3) := by decide +kernel
theorem dX1_passIn_59 : decode cX1_passIn 59 = .ok (.istore 8, 2) := by decide +kernel
theorem dX1_passIn_61 : decode cX1_passIn 61 = .ok (.aload_n 0, 1) := by decide +kernel
theorem dX1_passIn_62 : decode cX1_passIn 62 = .ok (.dup, 1) := by decide +kernel
theorem dX1_passIn_63 : decode cX1_passIn 63 = .ok (.getfield 51, 3) := by decide +kernel
theorem dX1_passIn_66 : decode cX1_passIn 66 = .ok (.iload_n 3, 1) := by decide +kernel
theorem dX1_passIn_67 : decode cX1_passIn 67 = .ok (.iadd, 1) := by decide +kernel
theorem dX1_passIn_68 : decode cX1_passIn 68 = .ok (.putfield 51, 3) := by decide +kernel
theorem dX1_passIn_71 : decode cX1_passIn 71 = .ok (.aload_n 0, 1) := by decide +kernel
theorem dX1_passIn_72 : decode cX1_passIn 72 = .ok (.dup, 1) := by decide +kernel
theorem dX1_passIn_73 : decode cX1_passIn 73 = .ok (.getfield 54, 3) := by decide +kernel
theorem dX1_passIn_76 : decode cX1_passIn 76 = .ok (.iload 6, 2) := by decide +kernel
theorem dX1_passIn_78 : decode cX1_passIn 78 = .ok (.iload_n 3, 1) := by decide +kernel
theorem dX1_passIn_79 : decode cX1_passIn 79 = .ok (.iadd, 1) := by decide +kernel
theorem dX1_passIn_80 : decode cX1_passIn 80 = .ok (.iload 8, 2) := by decide +kernel
theorem dX1_passIn_82 : decode cX1_passIn 82 = .ok (.isub, 1) := by decide +kernel
theorem dX1_passIn_83 : decode cX1_passIn 83 = .ok (.iadd, 1) := by decide +kernel
theorem dX1_passIn_84 : decode cX1_passIn 84 = .ok (.putfield 54, 3) := by decide +kernel
theorem dX1_passIn_87 : decode cX1_passIn 87 = .ok (.aload_n 0, 1) := by decide +kernel
theorem dX1_passIn_88 : decode cX1_passIn 88 = .ok (.dup, 1) := by decide +kernel
theorem dX1_passIn_89 : decode cX1_passIn 89 = .ok (.getfield 57, 3) := by decide +kernel
theorem dX1_passIn_92 : decode cX1_passIn 92 = .ok (.iload 4, 2) := by decide +kernel
theorem dX1_passIn_94 : decode cX1_passIn 94 = .ok (.iload 4, 2) := by decide +kernel
theorem dX1_passIn_96 : decode cX1_passIn 96 = .ok (.imul, 1) := by decide +kernel
theorem dX1_passIn_97 : decode cX1_passIn 97 = .ok (.iload 4, 2) := by decide +kernel
theorem dX1_passIn_99 : decode cX1_passIn 99 = .ok (.imul, 1) := by decide +kernel
theorem dX1_passIn_100 : decode cX1_passIn 100 = .ok (.iadd, 1) := by decide +kernel
theorem dX1_passIn_101 : decode cX1_passIn 101 = .ok (.putfield 57, 3) := by decide +kernel
theorem dX1_passIn_104 : decode cX1_passIn 104 = .ok (.iload 8, 2) := by decide +kernel
theorem dX1_passIn_106 : decode cX1_passIn 106 = .ok (.istore 6, 2) := by decide +kernel
theorem dX1_passIn_108 : decode cX1_passIn 108 = .ok (.iinc 7 1, 3) := by decide +kernel
theorem dX1_passIn_111 : decode cX1_passIn 111 = .ok (.goto (-67), 3) := by decide +kernel
theorem dX1_passIn_114 : decode cX1_passIn 114 = .ok (.aload_n 0, 1) := by decide +kernel
theorem dX1_passIn_115 : decode cX1_passIn 115 = .ok (.getfield 25, 3) := by decide +kernel
theorem dX1_passIn_118 : decode cX1_passIn 118 = .ok (.iload_n 1, 1) := by decide +kernel
theorem dX1_passIn_119 : decode cX1_passIn 119 = .ok (.iload 6, 2) := by decide +kernel
theorem dX1_passIn_121 : decode cX1_passIn 121 = .ok (.invokestatic 130, 3) := by decide +kernel
theorem dX1_passIn_124 : decode cX1_passIn 124 = .ok (.return_, 1) := by decide +kernel
theorem dX1_leftOver_0 : decode cX1_leftOver 0 = .ok (.iload_n 0, 1) := by decide +kernel
theorem dX1_leftOver_1 : decode cX1_leftOver 1 = .ok (.iload_n 0, 1) := by decide +kernel
theorem dX1_leftOver_2 : decode cX1_leftOver 2 = .ok (.iload_n 1, 1) := by decide +kernel
theorem dX1_leftOver_3 : decode cX1_leftOver 3 = .ok (.invokestatic 134, 3) := by decide +kernel
theorem dX1_leftOver_6 : decode cX1_leftOver 6 = .ok (.isub, 1) := by decide +kernel
theorem dX1_leftOver_7 : decode cX1_leftOver 7 = .ok (.ireturn, 1) := by decide +kernel
theorem dX1_storedIn_0 : decode cX1_storedIn 0 = .ok (.aload_n 0, 1) := by decide +kernel
theorem dX1_storedIn_1 : decode cX1_storedIn 1 = .ok (.getfield 25, 3) := by decide +kernel
theorem dX1_storedIn_4 : decode cX1_storedIn 4 = .ok (.iload_n 1, 1) := by decide +kernel
theorem dX1_storedIn_5 : decode cX1_storedIn 5 = .ok (.invokestatic 123, 3) := by decide +kernel
theorem dX1_storedIn_8 : decode cX1_storedIn 8 = .ok (.ireturn, 1) := by decide +kernel
theorem dX1_inletOf_0 : decode cX1_inletOf 0 = .ok (.aload_n 0, 1) := by decide +kernel
theorem dX1_inletOf_1 : decode cX1_inletOf 1 = .ok (.iload_n 1, 1) := by decide +kernel
theorem dX1_inletOf_2 : decode cX1_inletOf 2 = .ok (.invokevirtual 139, 3) := by decide +kernel
theorem dX1_inletOf_5 : decode cX1_inletOf 5 = .ok (.aload_n 0, 1) := by decide +kernel
theorem dX1_inletOf_6 : decode cX1_inletOf 6 = .ok (.getfield 25, 3) := by decide +kernel
theorem dX1_inletOf_9 : decode cX1_inletOf 9 = .ok (.iload_n 1, 1) := by decide +kernel
theorem dX1_inletOf_10 : decode cX1_inletOf 10 = .ok (.invokestatic 123, 3) := by decide +kernel
theorem dX1_inletOf_13 : decode cX1_inletOf 13 = .ok (.invokestatic 142, 3) := by decide +kernel
theorem dX1_inletOf_16 : decode cX1_inletOf 16 = .ok (.freturn, 1) := by decide +kernel
theorem dX1_heatAround_0 : decode cX1_heatAround 0 = .ok (.aload_n 0, 1) := by decide +kernel
theorem dX1_heatAround_1 : decode cX1_heatAround 1 = .ok (.getfield 12, 3) := by decide +kernel
theorem dX1_heatAround_4 : decode cX1_heatAround 4 = .ok (.iload_n 1, 1) := by decide +kernel
theorem dX1_heatAround_5 : decode cX1_heatAround 5 = .ok (.iconst 1, 1) := by decide +kernel
theorem dX1_heatAround_6 : decode cX1_heatAround 6 = .ok (.isub, 1) := by decide +kernel
theorem dX1_heatAround_7 : decode cX1_heatAround 7 = .ok (.invokevirtual 112, 3) := by decide +kernel
theorem dX1_heatAround_10 : decode cX1_heatAround 10 = .ok (.aload_n 0, 1) := by decide +kernel
theorem dX1_heatAround_11 : decode cX1_heatAround 11 = .ok (.getfield 12, 3) := by decide +kernel
theorem dX1_heatAround_14 : decode cX1_heatAround 14 = .ok (.iload_n 1, 1) := by decide +kernel
theorem dX1_heatAround_15 : decode cX1_heatAround 15 = .ok (.iconst 1, 1) := by decide +kernel
theorem dX1_heatAround_16 : decode cX1_heatAround 16 = .ok (.iadd, 1) := by decide +kernel
theorem dX1_heatAround_17 : decode cX1_heatAround 17 = .ok (.invokevirtual 112, 3) := by decide +kernel
theorem dX1_heatAround_20 : decode cX1_heatAround 20 = .ok (.iadd, 1) := by decide +kernel
theorem dX1_heatAround_21 : decode cX1_heatAround 21 = .ok (.ireturn, 1) := by decide +kernel
theorem dX1_inletFor_0 : decode cX1_inletFor 0 = .ok (.ldc 146, 2) := by decide +kernel
theorem dX1_inletFor_2 : decode cX1_inletFor 2 = .ok (.ldc 147, 2) := by decide +kernel
theorem dX1_inletFor_4 : decode cX1_inletFor 4 = .ok (.iload_n 0, 1) := by decide +kernel
theorem dX1_inletFor_5 : decode cX1_inletFor 5 = .ok (.i2f, 1) := by decide +kernel
theorem dX1_inletFor_6 : decode cX1_inletFor 6 = .ok (.fmul, 1) := by decide +kernel
theorem dX1_inletFor_7 : decode cX1_inletFor 7 = .ok (.fadd, 1) := by decide +kernel
theorem dX1_inletFor_8 : decode cX1_inletFor 8 = .ok (.ldc 148, 2) := by decide +kernel
theorem dX1_inletFor_10 : decode cX1_inletFor 10 = .ok (.iload_n 1, 1) := by decide +kernel
theorem dX1_inletFor_11 : decode cX1_inletFor 11 = .ok (.i2f, 1) := by decide +kernel
theorem dX1_inletFor_12 : decode cX1_inletFor 12 = .ok (.fmul, 1) := by decide +kernel
theorem dX1_inletFor_13 : decode cX1_inletFor 13 = .ok (.fadd, 1) := by decide +kernel
theorem dX1_inletFor_14 : decode cX1_inletFor 14 = .ok (.freturn, 1) := by decide +kernel
theorem dX1_riseAt_0 : decode cX1_riseAt 0 = .ok (.aload_n 0, 1) := by decide +kernel
theorem dX1_riseAt_1 : decode cX1_riseAt 1 = .ok (.getfield 12, 3) := by decide +kernel
theorem dX1_riseAt_4 : decode cX1_riseAt 4 = .ok (.iload_n 1, 1) := by decide +kernel
theorem dX1_riseAt_5 : decode cX1_riseAt 5 = .ok (.invokevirtual 112, 3) := by decide +kernel
theorem dX1_riseAt_8 : decode cX1_riseAt 8 = .ok (.istore_n 3, 1) := by decide +kernel
theorem dX1_riseAt_9 : decode cX1_riseAt 9 = .ok (.iload_n 3, 1) := by decide +kernel
theorem dX1_riseAt_10 : decode cX1_riseAt 10 = .ok (.ifCond .ne 5, 3) := by decide +kernel
theorem dX1_riseAt_13 : decode cX1_riseAt 13 = .ok (.fconst 0, 1) := by decide +kernel
theorem dX1_riseAt_14 : decode cX1_riseAt 14 = .ok (.freturn, 1) := by decide +kernel
theorem dX1_riseAt_15 : decode cX1_riseAt 15 = .ok (.aload_n 0, 1) := by decide +kernel
theorem dX1_riseAt_16 : decode cX1_riseAt 16 = .ok (.getfield 21, 3) := by decide +kernel
theorem dX1_riseAt_19 : decode cX1_riseAt 19 = .ok (.iload_n 2, 1) := by decide +kernel
theorem dX1_riseAt_20 : decode cX1_riseAt 20 = .ok (.invokevirtual 119, 3) := by decide +kernel
theorem dX1_riseAt_23 : decode cX1_riseAt 23 = .ok (.fstore 4, 2) := by decide +kernel
theorem dX1_riseAt_25 : decode cX1_riseAt 25 = .ok (.fload 4, 2) := by decide +kernel
theorem dX1_riseAt_27 : decode cX1_riseAt 27 = .ok (.fconst 0, 1) := by decide +kernel
theorem dX1_riseAt_28 : decode cX1_riseAt 28 = .ok (.fcmp .l, 1) := by decide +kernel
theorem dX1_riseAt_29 : decode cX1_riseAt 29 = .ok (.ifCond .ne 6, 3) := by decide +kernel
theorem dX1_riseAt_32 : decode cX1_riseAt 32 = .ok (.ldc 149, 2) := by decide +kernel
theorem dX1_riseAt_34 : decode cX1_riseAt 34 = .ok (.freturn, 1) := by decide +kernel
theorem dX1_riseAt_35 : decode cX1_riseAt 35 = .ok (.ldc 150, 2) := by decide +kernel
theorem dX1_riseAt_37 : decode cX1_riseAt 37 = .ok (.iload_n 3, 1) := by decide +kernel
theorem dX1_riseAt_38 : decode cX1_riseAt 38 = .ok (.i2f, 1) := by decide +kernel
theorem dX1_riseAt_39 : decode cX1_riseAt 39 = .ok (.fmul, 1) := by decide +kernel
theorem dX1_riseAt_40 : decode cX1_riseAt 40 = .ok (.fload 4, 2) := by decide +kernel
theorem dX1_riseAt_42 : decode cX1_riseAt 42 = .ok (.fdiv, 1) := by decide +kernel
theorem dX1_riseAt_43 : decode cX1_riseAt 43 = .ok (.fstore 5, 2) := by decide +kernel
theorem dX1_riseAt_45 : decode cX1_riseAt 45 = .ok (.fload 5, 2) := by decide +kernel
theorem dX1_riseAt_47 : decode cX1_riseAt 47 = .ok (.ldc 149, 2) := by decide +kernel
theorem dX1_riseAt_49 : decode cX1_riseAt 49 = .ok (.fcmp .g, 1) := by decide +kernel
theorem dX1_riseAt_50 : decode cX1_riseAt 50 = .ok (.ifCond .ge 8, 3) := by decide +kernel
theorem dX1_riseAt_53 : decode cX1_riseAt 53 = .ok (.fload 5, 2) := by decide +kernel
theorem dX1_riseAt_55 : decode cX1_riseAt 55 = .ok (.goto 5, 3) := by decide +kernel
theorem dX1_riseAt_58 : decode cX1_riseAt 58 = .ok (.ldc 149, 2) := by decide +kernel
theorem dX1_riseAt_60 : decode cX1_riseAt 60 = .ok (.freturn, 1) := by decide +kernel
theorem dX1_temperatureFor_0 : decode cX1_temperatureFor 0 = .ok (.fload_n 0, 1) := by decide +kernel
theorem dX1_temperatureFor_1 : decode cX1_temperatureFor 1 = .ok (.fload_n 1, 1) := by decide +kernel
theorem dX1_temperatureFor_2 : decode cX1_temperatureFor 2 = .ok (.fconst 1, 1) := by decide +kernel
theorem dX1_temperatureFor_3 : decode cX1_temperatureFor 3 = .ok (.iload_n 2, 1) := by decide +kernel
theorem dX1_temperatureFor_4 : decode cX1_temperatureFor 4 = .ok (.i2f, 1) := by decide +kernel
theorem dX1_temperatureFor_5 : decode cX1_temperatureFor 5 = .ok (.ldc 151, 2) := by decide +kernel
theorem dX1_temperatureFor_7 : decode cX1_temperatureFor 7 = .ok (.fdiv, 1) := by decide +kernel
theorem dX1_temperatureFor_8 : decode cX1_temperatureFor 8 = .ok (.fadd, 1) := by decide +kernel
theorem dX1_temperatureFor_9 : decode cX1_temperatureFor 9 = .ok (.fmul, 1) := by decide +kernel
theorem dX1_temperatureFor_10 : decode cX1_temperatureFor 10 = .ok (.fadd, 1) := by decide +kernel
theorem dX1_temperatureFor_11 : decode cX1_temperatureFor 11 = .ok (.freturn, 1) := by decide +kernel
theorem dX1_temperatureOf_0 : decode cX1_temperatureOf 0 = .ok (.aload_n 0, 1) := by decide +kernel
theorem dX1_temperatureOf_1 : decode cX1_temperatureOf 1 = .ok (.aload_n 1, 1) := by decide +kernel
theorem dX1_temperatureOf_2 : decode cX1_temperatureOf 2 = .ok (.getfield 93, 3) := by decide +kernel
theorem dX1_temperatureOf_5 : decode cX1_temperatureOf 5 = .ok (.aload_n 0, 1) := by decide +kernel
theorem dX1_temperatureOf_6 : decode cX1_temperatureOf 6 = .ok (.getfield 21, 3) := by decide +kernel
theorem dX1_temperatureOf_9 : decode cX1_temperatureOf 9 = .ok (.aload_n 1, 1) := by decide +kernel
theorem dX1_temperatureOf_10 : decode cX1_temperatureOf 10 = .ok (.getfield 93, 3) := by decide +kernel
theorem dX1_temperatureOf_13 : decode cX1_temperatureOf 13 = .ok (.invokevirtual 116, 3) := by decide +kernel
theorem dX1_temperatureOf_16 : decode cX1_temperatureOf 16 = .ok (.invokevirtual 152, 3) := by decide +kernel
theorem dX1_temperatureOf_19 : decode cX1_temperatureOf 19 = .ok (.fstore_n 2, 1) := by decide +kernel
theorem dX1_temperatureOf_20 : decode cX1_temperatureOf 20 = .ok (.aload_n 0, 1) := by decide +kernel
theorem dX1_temperatureOf_21 : decode cX1_temperatureOf 21 = .ok (.aload_n 1, 1) := by decide +kernel
theorem dX1_temperatureOf_22 : decode cX1_temperatureOf 22 = .ok (.getfield 93, 3) := by decide +kernel
theorem dX1_temperatureOf_25 : decode cX1_temperatureOf 25 = .ok (.invokevirtual 155, 3) := by decide +kernel
theorem dX1_temperatureOf_28 : decode cX1_temperatureOf 28 = .ok (.fload_n 2, 1) := by decide +kernel
theorem dX1_temperatureOf_29 : decode cX1_temperatureOf 29 = .ok (.aload_n 1, 1) := by decide +kernel
theorem dX1_temperatureOf_30 : decode cX1_temperatureOf 30 = .ok (.getfield 98, 3) := by decide +kernel
theorem dX1_temperatureOf_33 : decode cX1_temperatureOf 33 = .ok (.invokestatic 158, 3) := by decide +kernel
theorem dX1_temperatureOf_36 : decode cX1_temperatureOf 36 = .ok (.freturn, 1) := by decide +kernel
theorem dX1_isOverLimit_0 : decode cX1_isOverLimit 0 = .ok (.fload_n 1, 1) := by decide +kernel
theorem dX1_isOverLimit_1 : decode cX1_isOverLimit 1 = .ok (.aload_n 0, 1) := by decide +kernel
theorem dX1_isOverLimit_2 : decode cX1_isOverLimit 2 = .ok (.getfield 29, 3) := by decide +kernel
theorem dX1_isOverLimit_5 : decode cX1_isOverLimit 5 = .ok (.i2f, 1) := by decide +kernel
theorem dX1_isOverLimit_6 : decode cX1_isOverLimit 6 = .ok (.fcmp .l, 1) := by decide +kernel
theorem dX1_isOverLimit_7 : decode cX1_isOverLimit 7 = .ok (.ifCond .le 7, 3) := by decide +kernel
theorem dX1_isOverLimit_10 : decode cX1_isOverLimit 10 = .ok (.iconst 1, 1) := by decide +kernel
theorem dX1_isOverLimit_11 : decode cX1_isOverLimit 11 = .ok (.goto 4, 3) := by decide +kernel
theorem dX1_isOverLimit_14 : decode cX1_isOverLimit 14 = .ok (.iconst 0, 1) := by decide +kernel
theorem dX1_isOverLimit_15 : decode cX1_isOverLimit 15 = .ok (.ireturn, 1) := by decide +kernel
theorem dX1_isRackHot_0 : decode cX1_isRackHot 0 = .ok (.aload_n 0, 1) := by decide +kernel
theorem dX1_isRackHot_1 : decode cX1_isRackHot 1 = .ok (.aload_n 0, 1) := by decide +kernel
theorem dX1_isRackHot_2 : decode cX1_isRackHot 2 = .ok (.aload_n 1, 1) := by decide +kernel
theorem dX1_isRackHot_3 : decode cX1_isRackHot 3 = .ok (.invokevirtual 162, 3) := by decide +kernel
theorem dX1_isRackHot_6 : decode cX1_isRackHot 6 = .ok (.invokevirtual 166, 3) := by decide +kernel
theorem dX1_isRackHot_9 : decode cX1_isRackHot 9 = .ok (.ireturn, 1) := by decide +kernel
theorem dX1_countHotRacks_0 : decode cX1_countHotRacks 0 = .ok (.iconst 0, 1) := by decide +kernel
theorem dX1_countHotRacks_1 : decode cX1_countHotRacks 1 = .ok (.istore_n 1, 1) := by decide +kernel
theorem dX1_countHotRacks_2 : decode cX1_countHotRacks 2 = .ok (.iconst 0, 1) := by decide +kernel
theorem dX1_countHotRacks_3 : decode cX1_countHotRacks 3 = .ok (.istore_n 2, 1) := by decide +kernel
theorem dX1_countHotRacks_4 : decode cX1_countHotRacks 4 = .ok (.iload_n 2, 1) := by decide +kernel
theorem dX1_countHotRacks_5 : decode cX1_countHotRacks 5 = .ok (.aload_n 0, 1) := by decide +kernel
theorem dX1_countHotRacks_6 : decode cX1_countHotRacks 6 = .ok (.getfield 12, 3) := by decide +kernel
theorem dX1_countHotRacks_9 : decode cX1_countHotRacks 9 = .ok (.getfield 90, 3) := by decide +kernel
theorem dX1_countHotRacks_12 : decode cX1_countHotRacks 12 = .ok (.if_icmp .ge 33, 3) := by decide +kernel
theorem dX1_countHotRacks_15 : decode cX1_countHotRacks 15 = .ok (.aload_n 0, 1) := by decide +kernel
theorem dX1_countHotRacks_16 : decode cX1_countHotRacks 16 = .ok (.getfield 12, 3) := by decide +kernel
theorem dX1_countHotRacks_19 : decode cX1_countHotRacks 19 = .ok (.iload_n 2, 1) := by decide +kernel
theorem dX1_countHotRacks_20 : decode cX1_countHotRacks 20 = .ok (.invokevirtual 82, 3) := by decide +kernel
theorem dX1_countHotRacks_23 : decode cX1_countHotRacks 23 = .ok (.astore_n 3, 1) := by decide +kernel
theorem dX1_countHotRacks_24 : decode cX1_countHotRacks 24 = .ok (.aload_n 3, 1) := by decide +kernel
theorem dX1_countHotRacks_25 : decode cX1_countHotRacks 25 = .ok (.ifnull 14, 3) := by decide +kernel
theorem dX1_countHotRacks_28 : decode cX1_countHotRacks 28 = .ok (.aload_n 0, 1) := by decide +kernel
theorem dX1_countHotRacks_29 : decode cX1_countHotRacks 29 = .ok (.aload_n 3, 1) := by decide +kernel
theorem dX1_countHotRacks_30 : decode cX1_countHotRacks 30 = .ok (.invokevirtual 170, 3) := by decide +kernel
theorem dX1_countHotRacks_33 : decode cX1_countHotRacks 33 = .ok (.ifCond .eq 6, 3) := by decide +kernel
theorem dX1_countHotRacks_36 : decode cX1_countHotRacks 36 = .ok (.iinc 1 1, 3) := by decide +kernel
theorem dX1_countHotRacks_39 : decode cX1_countHotRacks 39 = .ok (.iinc 2 1, 3) := by decide +kernel
theorem dX1_countHotRacks_42 : decode cX1_countHotRacks 42 = .ok (.goto (-38), 3) := by decide +kernel
theorem dX1_countHotRacks_45 : decode cX1_countHotRacks 45 = .ok (.iload_n 1, 1) := by decide +kernel
theorem dX1_countHotRacks_46 : decode cX1_countHotRacks 46 = .ok (.ireturn, 1) := by decide +kernel
theorem dX1_sumOfTemperatures_0 : decode cX1_sumOfTemperatures 0 = .ok (.dconst 0, 1) := by decide +kernel
theorem dX1_sumOfTemperatures_1 : decode cX1_sumOfTemperatures 1 = .ok (.dstore_n 1, 1) := by decide +kernel
theorem dX1_sumOfTemperatures_2 : decode cX1_sumOfTemperatures 2 = .ok (.iconst 0, 1) := by decide +kernel
theorem dX1_sumOfTemperatures_3 : decode cX1_sumOfTemperatures 3 = .ok (.istore_n 3, 1) := by decide +kernel
theorem dX1_sumOfTemperatures_4 : decode cX1_sumOfTemperatures 4 = .ok (.iload_n 3, 1) := by decide +kernel
theorem dX1_sumOfTemperatures_5 : decode cX1_sumOfTemperatures 5 = .ok (.aload_n 0, 1) := by decide +kernel
theorem dX1_sumOfTemperatures_6 : decode cX1_sumOfTemperatures 6 = .ok (.getfield 12, 3) := by decide +kernel
theorem dX1_sumOfTemperatures_9 : decode cX1_sumOfTemperatures 9 = .ok (.getfield 90, 3) := by decide +kernel
theorem dX1_sumOfTemperatures_12 : decode cX1_sumOfTemperatures 12 = .ok (.if_icmp .ge 34, 3) := by decide +kernel
theorem dX1_sumOfTemperatures_15 : decode cX1_sumOfTemperatures 15 = .ok (.aload_n 0, 1) := by decide +kernel
theorem dX1_sumOfTemperatures_16 : decode cX1_sumOfTemperatures 16 = .ok (.getfield 12, 3) := by decide +kernel
theorem dX1_sumOfTemperatures_19 : decode cX1_sumOfTemperatures 19 = .ok (.iload_n 3, 1) := by decide +kernel
theorem dX1_sumOfTemperatures_20 : decode cX1_sumOfTemperatures 20 = .ok (.invokevirtual 82, 3) := by decide +kernel
theorem dX1_sumOfTemperatures_23 : decode cX1_sumOfTemperatures 23 = .ok (.astore 4, 2) := by decide +kernel
theorem dX1_sumOfTemperatures_25 : decode cX1_sumOfTemperatures 25 = .ok (.aload 4, 2) := by decide +kernel
theorem dX1_sumOfTemperatures_27 : decode cX1_sumOfTemperatures 27 = .ok (.ifnull 13, 3) := by decide +kernel
theorem dX1_sumOfTemperatures_30 : decode cX1_sumOfTemperatures 30 = .ok (.dload_n 1, 1) := by decide +kernel
theorem dX1_sumOfTemperatures_31 : decode cX1_sumOfTemperatures 31 = .ok (.aload_n 0, 1) := by decide +kernel
theorem dX1_sumOfTemperatures_32 : decode cX1_sumOfTemperatures 32 = .ok (.aload 4, 2) := by decide +kernel
theorem dX1_sumOfTemperatures_34 : decode cX1_sumOfTemperatures 34 = .ok (.invokevirtual 162, 3) := by decide +kernel
theorem dX1_sumOfTemperatures_37 : decode cX1_sumOfTemperatures 37 = .ok (.f2d, 1) := by decide +kernel
theorem dX1_sumOfTemperatures_38 : decode cX1_sumOfTemperatures 38 = .ok (.dadd, 1) := by decide +kernel
theorem dX1_sumOfTemperatures_39 : decode cX1_sumOfTemperatures 39 = .ok (.dstore_n 1, 1) := by decide +kernel
theorem dX1_sumOfTemperatures_40 : decode cX1_sumOfTemperatures 40 = .ok (.iinc 3 1, 3) := by decide +kernel
theorem dX1_sumOfTemperatures_43 : decode cX1_sumOfTemperatures 43 = .ok (.goto (-39), 3) := by decide +kernel
theorem dX1_sumOfTemperatures_46 : decode cX1_sumOfTemperatures 46 = .ok (.dload_n 1, 1) := by decide +kernel
theorem dX1_sumOfTemperatures_47 : decode cX1_sumOfTemperatures 47 = .ok (.dreturn, 1) := by decide +kernel
theorem dX1_lowestSpeedByTrying_0 : decode cX1_lowestSpeedByTrying 0 = .ok (.iconst 0, 1) := by decide +kernel
theorem dX1_lowestSpeedByTrying_1 : decode cX1_lowestSpeedByTrying 1 = .ok (.istore_n 2, 1) := by decide +kernel
theorem dX1_lowestSpeedByTrying_2 : decode cX1_lowestSpeedByTrying 2 = .ok (.iload_n 2, 1) := by decide +kernel
theorem dX1_lowestSpeedByTrying_3 : decode cX1_lowestSpeedByTrying 3 = .ok (.bipush 10, 2) := by decide +kernel
theorem dX1_lowestSpeedByTrying_5 : decode cX1_lowestSpeedByTrying 5 = .ok (.if_icmp .gt 20, 3) := by decide +kernel
theorem dX1_lowestSpeedByTrying_8 : decode cX1_lowestSpeedByTrying 8 = .ok (.aload_n 0, 1) := by decide +kernel
theorem dX1_lowestSpeedByTrying_9 : decode cX1_lowestSpeedByTrying 9 = .ok (.iload_n 1, 1) := by decide +kernel
theorem dX1_lowestSpeedByTrying_10 : decode cX1_lowestSpeedByTrying 10 = .ok (.iload_n 2, 1) := by decide +kernel
theorem dX1_lowestSpeedByTrying_11 : decode cX1_lowestSpeedByTrying 11 = .ok (.invokevirtual 174, 3) := by decide +kernel
theorem dX1_lowestSpeedByTrying_14 : decode cX1_lowestSpeedByTrying 14 = .ok (.ifCond .ne 5, 3) := by decide +kernel
theorem dX1_lowestSpeedByTrying_17 : decode cX1_lowestSpeedByTrying 17 = .ok (.iload_n 2, 1) := by decide +kernel
theorem dX1_lowestSpeedByTrying_18 : decode cX1_lowestSpeedByTrying 18 = .ok (.ireturn, 1) := by decide +kernel
theorem dX1_lowestSpeedByTrying_19 : decode cX1_lowestSpeedByTrying 19 = .ok (.iinc 2 1, 3) := by decide +kernel
theorem dX1_lowestSpeedByTrying_22 : decode cX1_lowestSpeedByTrying 22 = .ok (.goto (-20), 3) := by decide +kernel
theorem dX1_lowestSpeedByTrying_25 : decode cX1_lowestSpeedByTrying 25 = .ok (.iconst (-1), 1) := by decide +kernel
theorem dX1_lowestSpeedByTrying_26 : decode cX1_lowestSpeedByTrying 26 = .ok (.ireturn, 1) := by decide +kernel
theorem dX1_lowestSpeedByHalving_0 : decode cX1_lowestSpeedByHalving 0 = .ok (.iconst 0, 1) := by decide +kernel
theorem dX1_lowestSpeedByHalving_1 : decode cX1_lowestSpeedByHalving 1 = .ok (.istore_n 2, 1) := by decide +kernel
theorem dX1_lowestSpeedByHalving_2 : decode cX1_lowestSpeedByHalving 2 = .ok (.bipush 11, 2) := by decide +kernel
theorem dX1_lowestSpeedByHalving_4 : decode cX1_lowestSpeedByHalving 4 = .ok (.istore_n 3, 1) := by decide +kernel
theorem dX1_lowestSpeedByHalving_5 : decode cX1_lowestSpeedByHalving 5 = .ok (.iconst 0, 1) := by decide +kernel
theorem dX1_lowestSpeedByHalving_6 : decode cX1_lowestSpeedByHalving 6 = .ok (.istore 4, 2) := by decide +kernel
theorem dX1_lowestSpeedByHalving_8 : decode cX1_lowestSpeedByHalving 8 = .ok (.iload 4, 2) := by decide +kernel
theorem dX1_lowestSpeedByHalving_10 : decode cX1_lowestSpeedByHalving 10 = .ok (.bipush 10, 2) := by decide +kernel
theorem dX1_lowestSpeedByHalving_12 : decode cX1_lowestSpeedByHalving 12 = .ok (.if_icmp .gt 42, 3) := by decide +kernel
theorem dX1_lowestSpeedByHalving_15 : decode cX1_lowestSpeedByHalving 15 = .ok (.iload_n 2, 1) := by decide +kernel
theorem dX1_lowestSpeedByHalving_16 : decode cX1_lowestSpeedByHalving 16 = .ok (.iload_n 3, 1) := by decide +kernel
theorem dX1_lowestSpeedByHalving_17 : decode cX1_lowestSpeedByHalving 17 = .ok (.if_icmp .ge 37, 3) := by decide +kernel
theorem dX1_lowestSpeedByHalving_20 : decode cX1_lowestSpeedByHalving 20 = .ok (.iload_n 2, 1) := by decide +kernel
theorem dX1_lowestSpeedByHalving_21 : decode cX1_lowestSpeedByHalving 21 = .ok (.iload_n 3, 1) := by decide +kernel
theorem dX1_lowestSpeedByHalving_22 : decode cX1_lowestSpeedByHalving 22 = .ok (.iadd, 1) := by decide +kernel
theorem dX1_lowestSpeedByHalving_23 : decode cX1_lowestSpeedByHalving 23 = .ok (.iconst 2, 1) := by decide +kernel
theorem dX1_lowestSpeedByHalving_24 : decode cX1_lowestSpeedByHalving 24 = .ok (.idiv, 1) := by decide +kernel
theorem dX1_lowestSpeedByHalving_25 : decode cX1_lowestSpeedByHalving 25 = .ok (.istore 5, 2) := by decide +kernel
theorem dX1_lowestSpeedByHalving_27 : decode cX1_lowestSpeedByHalving 27 = .ok (.aload_n 0, 1) := by decide +kernel
theorem dX1_lowestSpeedByHalving_28 : decode cX1_lowestSpeedByHalving 28 = .ok (.iload_n 1, 1) := by decide +kernel
theorem dX1_lowestSpeedByHalving_29 : decode cX1_lowestSpeedByHalving 29 = .ok (.iload 5, 2) := by decide +kernel
theorem dX1_lowestSpeedByHalving_31 : decode cX1_lowestSpeedByHalving 31 = .ok (.invokevirtual 174, 3) := by decide +kernel
theorem dX1_lowestSpeedByHalving_34 : decode cX1_lowestSpeedByHalving 34 = .ok (.ifCond .eq 11, 3) := by decide +kernel
theorem dX1_lowestSpeedByHalving_37 : decode cX1_lowestSpeedByHalving 37 = .ok (.iload 5, 2) := by decide +kernel
theorem dX1_lowestSpeedByHalving_39 : decode cX1_lowestSpeedByHalving 39 = .ok (.iconst 1, 1) := by decide +kernel
theorem dX1_lowestSpeedByHalving_40 : decode cX1_lowestSpeedByHalving 40 = .ok (.iadd, 1) := by decide +kernel
theorem dX1_lowestSpeedByHalving_41 : decode cX1_lowestSpeedByHalving 41 = .ok (.istore_n 2, 1) := by decide +kernel
theorem dX1_lowestSpeedByHalving_42 : decode cX1_lowestSpeedByHalving 42 = .ok (.goto 6, 3) := by decide +kernel
theorem dX1_lowestSpeedByHalving_45 : decode cX1_lowestSpeedByHalving 45 = .ok (.iload 5, 2) := by decide +kernel
theorem dX1_lowestSpeedByHalving_47 : decode cX1_lowestSpeedByHalving 47 = .ok (.istore_n 3, 1) := by decide +kernel
theorem dX1_lowestSpeedByHalving_48 : decode cX1_lowestSpeedByHalving 48 = .ok (.iinc 4 1, 3) := by decide +kernel
theorem dX1_lowestSpeedByHalving_51 : decode cX1_lowestSpeedByHalving 51 = .ok (.goto (-43), 3) := by decide +kernel
theorem dX1_lowestSpeedByHalving_54 : decode cX1_lowestSpeedByHalving 54 = .ok (.iload_n 2, 1) := by decide +kernel
theorem dX1_lowestSpeedByHalving_55 : decode cX1_lowestSpeedByHalving 55 = .ok (.bipush 10, 2) := by decide +kernel
theorem dX1_lowestSpeedByHalving_57 : decode cX1_lowestSpeedByHalving 57 = .ok (.if_icmp .gt 7, 3) := by decide +kernel
theorem dX1_lowestSpeedByHalving_60 : decode cX1_lowestSpeedByHalving 60 = .ok (.iload_n 2, 1) := by decide +kernel
theorem dX1_lowestSpeedByHalving_61 : decode cX1_lowestSpeedByHalving 61 = .ok (.goto 4, 3) := by decide +kernel
theorem dX1_lowestSpeedByHalving_64 : decode cX1_lowestSpeedByHalving 64 = .ok (.iconst (-1), 1) := by decide +kernel
theorem dX1_lowestSpeedByHalving_65 : decode cX1_lowestSpeedByHalving 65 = .ok (.ireturn, 1) := by decide +kernel
theorem dX1_wouldBeHot_0 : decode cX1_wouldBeHot 0 = .ok (.aload_n 0, 1) := by decide +kernel
theorem dX1_wouldBeHot_1 : decode cX1_wouldBeHot 1 = .ok (.iload_n 1, 1) := by decide +kernel
theorem dX1_wouldBeHot_2 : decode cX1_wouldBeHot 2 = .ok (.invokevirtual 155, 3) := by decide +kernel
theorem dX1_wouldBeHot_5 : decode cX1_wouldBeHot 5 = .ok (.fstore_n 3, 1) := by decide +kernel
theorem dX1_wouldBeHot_6 : decode cX1_wouldBeHot 6 = .ok (.aload_n 0, 1) := by decide +kernel
theorem dX1_wouldBeHot_7 : decode cX1_wouldBeHot 7 = .ok (.iload_n 1, 1) := by decide +kernel
theorem dX1_wouldBeHot_8 : decode cX1_wouldBeHot 8 = .ok (.iload_n 2, 1) := by decide +kernel
theorem dX1_wouldBeHot_9 : decode cX1_wouldBeHot 9 = .ok (.invokevirtual 152, 3) := by decide +kernel
theorem dX1_wouldBeHot_12 : decode cX1_wouldBeHot 12 = .ok (.fstore 4, 2) := by decide +kernel
theorem dX1_wouldBeHot_14 : decode cX1_wouldBeHot 14 = .ok (.iconst 0, 1) := by decide +kernel
theorem dX1_wouldBeHot_15 : decode cX1_wouldBeHot 15 = .ok (.istore 5, 2) := by decide +kernel
theorem dX1_wouldBeHot_17 : decode cX1_wouldBeHot 17 = .ok (.iload 5, 2) := by decide +kernel
theorem dX1_wouldBeHot_19 : decode cX1_wouldBeHot 19 = .ok (.bipush 6, 2) := by decide +kernel
theorem dX1_wouldBeHot_21 : decode cX1_wouldBeHot 21 = .ok (.if_icmp .ge 40, 3) := by decide +kernel
theorem dX1_wouldBeHot_24 : decode cX1_wouldBeHot 24 = .ok (.aload_n 0, 1) := by decide +kernel
theorem dX1_wouldBeHot_25 : decode cX1_wouldBeHot 25 = .ok (.getfield 12, 3) := by decide +kernel
theorem dX1_wouldBeHot_28 : decode cX1_wouldBeHot 28 = .ok (.iload_n 1, 1) := by decide +kernel
theorem dX1_wouldBeHot_29 : decode cX1_wouldBeHot 29 = .ok (.iload 5, 2) := by decide +kernel
theorem dX1_wouldBeHot_31 : decode cX1_wouldBeHot 31 = .ok (.invokevirtual 74, 3) := by decide +kernel
theorem dX1_wouldBeHot_34 : decode cX1_wouldBeHot 34 = .ok (.iconst (-1), 1) := by decide +kernel
theorem dX1_wouldBeHot_35 : decode cX1_wouldBeHot 35 = .ok (.if_icmp .eq 20, 3) := by decide +kernel
theorem dX1_wouldBeHot_38 : decode cX1_wouldBeHot 38 = .ok (.aload_n 0, 1) := by decide +kernel
theorem dX1_wouldBeHot_39 : decode cX1_wouldBeHot 39 = .ok (.fload_n 3, 1) := by decide +kernel
theorem dX1_wouldBeHot_40 : decode cX1_wouldBeHot 40 = .ok (.fload 4, 2) := by decide +kernel
theorem dX1_wouldBeHot_42 : decode cX1_wouldBeHot 42 = .ok (.iload 5, 2) := by decide +kernel
theorem dX1_wouldBeHot_44 : decode cX1_wouldBeHot 44 = .ok (.invokestatic 158, 3) := by decide +kernel
theorem dX1_wouldBeHot_47 : decode cX1_wouldBeHot 47 = .ok (.invokevirtual 166, 3) := by decide +kernel
theorem dX1_wouldBeHot_50 : decode cX1_wouldBeHot 50 = .ok (.ifCond .eq 5, 3) := by decide +kernel
theorem dX1_wouldBeHot_53 : decode cX1_wouldBeHot 53 = .ok (.iconst 1, 1) := by decide +kernel
theorem dX1_wouldBeHot_54 : decode cX1_wouldBeHot 54 = .ok (.ireturn, 1) := by decide +kernel
theorem dX1_wouldBeHot_55 : decode cX1_wouldBeHot 55 = .ok (.iinc 5 1, 3) := by decide +kernel
theorem dX1_wouldBeHot_58 : decode cX1_wouldBeHot 58 = .ok (.goto (-41), 3) := by decide +kernel
theorem dX1_wouldBeHot_61 : decode cX1_wouldBeHot 61 = .ok (.iconst 0, 1) := by decide +kernel
theorem dX1_wouldBeHot_62 : decode cX1_wouldBeHot 62 = .ok (.ireturn, 1) := by decide +kernel
theorem dX1_minutesBeforeHot_0 : decode cX1_minutesBeforeHot 0 = .ok (.aload_n 0, 1) := by decide +kernel
theorem dX1_minutesBeforeHot_1 : decode cX1_minutesBeforeHot 1 = .ok (.getfield 12, 3) := by decide +kernel
theorem dX1_minutesBeforeHot_4 : decode cX1_minutesBeforeHot 4 = .ok (.aload_n 1, 1) := by decide +kernel
theorem dX1_minutesBeforeHot_5 : decode cX1_minutesBeforeHot 5 = .ok (.getfield 93, 3) := by decide +kernel
theorem dX1_minutesBeforeHot_8 : decode cX1_minutesBeforeHot 8 = .ok (.invokevirtual 112, 3) := by decide +kernel
theorem dX1_minutesBeforeHot_11 : decode cX1_minutesBeforeHot 11 = .ok (.istore_n 2, 1) := by decide +kernel
theorem dX1_minutesBeforeHot_12 : decode cX1_minutesBeforeHot 12 = .ok (.aload_n 0, 1) := by decide +kernel
theorem dX1_minutesBeforeHot_13 : decode cX1_minutesBeforeHot 13 = .ok (.getfield 21, 3) := by decide +kernel
theorem dX1_minutesBeforeHot_16 : decode cX1_minutesBeforeHot 16 = .ok (.aload_n 1, 1) := by decide +kernel
theorem dX1_minutesBeforeHot_17 : decode cX1_minutesBeforeHot 17 = .ok (.getfield 93, 3) := by decide +kernel
theorem dX1_minutesBeforeHot_20 : decode cX1_minutesBeforeHot 20 = .ok (.invokevirtual 116, 3) := by decide +kernel
theorem dX1_minutesBeforeHot_23 : decode cX1_minutesBeforeHot 23 = .ok (.istore_n 3, 1) := by decide +kernel
theorem dX1_minutesBeforeHot_24 : decode cX1_minutesBeforeHot 24 = .ok (.aload_n 0, 1) := by decide +kernel
theorem dX1_minutesBeforeHot_25 : decode cX1_minutesBeforeHot 25 = .ok (.getfield 21, 3) := by decide +kernel
theorem dX1_minutesBeforeHot_28 : decode cX1_minutesBeforeHot 28 = .ok (.iload_n 3, 1) := by decide +kernel
theorem dX1_minutesBeforeHot_29 : decode cX1_minutesBeforeHot 29 = .ok (.invokevirtual 119, 3) := by decide +kernel
theorem dX1_minutesBeforeHot_32 : decode cX1_minutesBeforeHot 32 = .ok (.f2i, 1) := by decide +kernel
theorem dX1_minutesBeforeHot_33 : decode cX1_minutesBeforeHot 33 = .ok (.istore 4, 2) := by decide +kernel
theorem dX1_minutesBeforeHot_35 : decode cX1_minutesBeforeHot 35 = .ok (.aload_n 0, 1) := by decide +kernel
theorem dX1_minutesBeforeHot_36 : decode cX1_minutesBeforeHot 36 = .ok (.aload_n 1, 1) := by decide +kernel
theorem dX1_minutesBeforeHot_37 : decode cX1_minutesBeforeHot 37 = .ok (.getfield 93, 3) := by decide +kernel
theorem dX1_minutesBeforeHot_40 : decode cX1_minutesBeforeHot 40 = .ok (.invokevirtual 139, 3) := by decide +kernel
theorem dX1_minutesBeforeHot_43 : decode cX1_minutesBeforeHot 43 = .ok (.istore 5, 2) := by decide +kernel
theorem dX1_minutesBeforeHot_45 : decode cX1_minutesBeforeHot 45 = .ok (.aload_n 0, 1) := by decide +kernel
theorem dX1_minutesBeforeHot_46 : decode cX1_minutesBeforeHot 46 = .ok (.aload_n 1, 1) := by decide +kernel
theorem dX1_minutesBeforeHot_47 : decode cX1_minutesBeforeHot 47 = .ok (.getfield 93, 3) := by decide +kernel
theorem dX1_minutesBeforeHot_50 : decode cX1_minutesBeforeHot 50 = .ok (.iload_n 3, 1) := by decide +kernel
theorem dX1_minutesBeforeHot_51 : decode cX1_minutesBeforeHot 51 = .ok (.invokevirtual 152, 3) := by decide +kernel
theorem dX1_minutesBeforeHot_54 : decode cX1_minutesBeforeHot 54 = .ok (.fstore 6, 2) := by decide +kernel
theorem dX1_minutesBeforeHot_56 : decode cX1_minutesBeforeHot 56 = .ok (.aload_n 0, 1) := by decide +kernel
theorem dX1_minutesBeforeHot_57 : decode cX1_minutesBeforeHot 57 = .ok (.getfield 25, 3) := by decide +kernel
theorem dX1_minutesBeforeHot_60 : decode cX1_minutesBeforeHot 60 = .ok (.aload_n 1, 1) := by decide +kernel
theorem dX1_minutesBeforeHot_61 : decode cX1_minutesBeforeHot 61 = .ok (.getfield 93, 3) := by decide +kernel
theorem dX1_minutesBeforeHot_64 : decode cX1_minutesBeforeHot 64 = .ok (.invokestatic 123, 3) := by decide +kernel
theorem dX1_minutesBeforeHot_67 : decode cX1_minutesBeforeHot 67 = .ok (.istore 7, 2) := by decide +kernel
theorem dX1_minutesBeforeHot_69 : decode cX1_minutesBeforeHot 69 = .ok (.iconst 0, 1) := by decide +kernel
theorem dX1_minutesBeforeHot_70 : decode cX1_minutesBeforeHot 70 = .ok (.istore 8, 2) := by decide +kernel
theorem dX1_minutesBeforeHot_72 : decode cX1_minutesBeforeHot 72 = .ok (.iload 8, 2) := by decide +kernel
theorem dX1_minutesBeforeHot_74 : decode cX1_minutesBeforeHot 74 = .ok (.bipush 60, 2) := by decide +kernel
theorem dX1_minutesBeforeHot_76 : decode cX1_minutesBeforeHot 76 = .ok (.if_icmp .gt 46, 3) := by decide +kernel
theorem dX1_minutesBeforeHot_79 : decode cX1_minutesBeforeHot 79 = .ok (.aload_n 0, 1) := by decide +kernel
theorem dX1_minutesBeforeHot_80 : decode cX1_minutesBeforeHot 80 = .ok (.iload 5, 2) := by decide +kernel
theorem dX1_minutesBeforeHot_82 : decode cX1_minutesBeforeHot 82 = .ok (.iload 7, 2) := by decide +kernel
theorem dX1_minutesBeforeHot_84 : decode cX1_minutesBeforeHot 84 = .ok (.invokestatic 142, 3) := by decide +kernel
theorem dX1_minutesBeforeHot_87 : decode cX1_minutesBeforeHot 87 = .ok (.fload 6, 2) := by decide +kernel
theorem dX1_minutesBeforeHot_89 : decode cX1_minutesBeforeHot 89 = .ok (.aload_n 1, 1) := by decide +kernel
theorem dX1_minutesBeforeHot_90 : decode cX1_minutesBeforeHot 90 = .ok (.getfield 98, 3) := by decide +kernel
theorem dX1_minutesBeforeHot_93 : decode cX1_minutesBeforeHot 93 = .ok (.invokestatic 158, 3) := by decide +kernel
theorem dX1_minutesBeforeHot_96 : decode cX1_minutesBeforeHot 96 = .ok (.invokevirtual 166, 3) := by decide +kernel
theorem dX1_minutesBeforeHot_99 : decode cX1_minutesBeforeHot 99 = .ok (.ifCond .eq 6, 3) := by decide +kernel
theorem dX1_minutesBeforeHot_102 : decode cX1_minutesBeforeHot 102 = .ok (.iload 8, 2) := by decide +kernel
theorem dX1_minutesBeforeHot_104 : decode cX1_minutesBeforeHot 104 = .ok (.ireturn, 1) := by decide +kernel
theorem dX1_minutesBeforeHot_105 : decode cX1_minutesBeforeHot 105 = .ok (.iload 7, 2) := by decide +kernel
theorem dX1_minutesBeforeHot_107 : decode cX1_minutesBeforeHot 107 = .ok (.iload_n 2, 1) := by decide +kernel
theorem dX1_minutesBeforeHot_108 : decode cX1_minutesBeforeHot 108 = .ok (.iadd, 1) := by decide +kernel
theorem dX1_minutesBeforeHot_109 : decode cX1_minutesBeforeHot 109 = .ok (.iload 4, 2) := by decide +kernel
theorem dX1_minutesBeforeHot_111 : decode cX1_minutesBeforeHot 111 = .ok (.invokestatic 127, 3) := by decide +kernel
theorem dX1_minutesBeforeHot_114 : decode cX1_minutesBeforeHot 114 = .ok (.istore 7, 2) := by decide +kernel
theorem dX1_minutesBeforeHot_116 : decode cX1_minutesBeforeHot 116 = .ok (.iinc 8 1, 3) := by decide +kernel
theorem dX1_minutesBeforeHot_119 : decode cX1_minutesBeforeHot 119 = .ok (.goto (-47), 3) := by decide +kernel
theorem dX1_minutesBeforeHot_122 : decode cX1_minutesBeforeHot 122 = .ok (.iconst (-1), 1) := by decide +kernel
theorem dX1_minutesBeforeHot_123 : decode cX1_minutesBeforeHot 123 = .ok (.ireturn, 1) := by decide +kernel
theorem dX1_rackAtRank_0 : decode cX1_rackAtRank 0 = .ok (.aload_n 0, 1) := by decide +kernel
theorem dX1_rackAtRank_1 : decode cX1_rackAtRank 1 = .ok (.invokevirtual 178, 3) := by decide +kernel
theorem dX1_rackAtRank_4 : decode cX1_rackAtRank 4 = .ok (.iconst 0, 1) := by decide +kernel
theorem dX1_rackAtRank_5 : decode cX1_rackAtRank 5 = .ok (.istore_n 2, 1) := by decide +kernel
theorem dX1_rackAtRank_6 : decode cX1_rackAtRank 6 = .ok (.iload_n 2, 1) := by decide +kernel
theorem dX1_rackAtRank_7 : decode cX1_rackAtRank 7 = .ok (.aload_n 0, 1) := by decide +kernel
theorem dX1_rackAtRank_8 : decode cX1_rackAtRank 8 = .ok (.getfield 12, 3) := by decide +kernel
theorem dX1_rackAtRank_11 : decode cX1_rackAtRank 11 = .ok (.getfield 90, 3) := by decide +kernel
theorem dX1_rackAtRank_14 : decode cX1_rackAtRank 14 = .ok (.if_icmp .ge 20, 3) := by decide +kernel
theorem dX1_rackAtRank_17 : decode cX1_rackAtRank 17 = .ok (.aload_n 0, 1) := by decide +kernel
theorem dX1_rackAtRank_18 : decode cX1_rackAtRank 18 = .ok (.iload_n 2, 1) := by decide +kernel
theorem dX1_rackAtRank_19 : decode cX1_rackAtRank 19 = .ok (.invokevirtual 181, 3) := by decide +kernel
theorem dX1_rackAtRank_22 : decode cX1_rackAtRank 22 = .ok (.iload_n 1, 1) := by decide +kernel
theorem dX1_rackAtRank_23 : decode cX1_rackAtRank 23 = .ok (.if_icmp .ne 5, 3) := by decide +kernel
theorem dX1_rackAtRank_26 : decode cX1_rackAtRank 26 = .ok (.iload_n 2, 1) := by decide +kernel
theorem dX1_rackAtRank_27 : decode cX1_rackAtRank 27 = .ok (.ireturn, 1) := by decide +kernel
theorem dX1_rackAtRank_28 : decode cX1_rackAtRank 28 = .ok (.iinc 2 1, 3) := by decide +kernel
theorem dX1_rackAtRank_31 : decode cX1_rackAtRank 31 = .ok (.goto (-25), 3) := by decide +kernel
theorem dX1_rackAtRank_34 : decode cX1_rackAtRank 34 = .ok (.iconst (-1), 1) := by decide +kernel
theorem dX1_rackAtRank_35 : decode cX1_rackAtRank 35 = .ok (.ireturn, 1) := by decide +kernel
theorem dX1_measureRacks_0 : decode cX1_measureRacks 0 = .ok (.iconst 0, 1) := by decide +kernel
theorem dX1_measureRacks_1 : decode cX1_measureRacks 1 = .ok (.istore_n 1, 1) := by decide +kernel
theorem dX1_measureRacks_2 : decode cX1_measureRacks 2 = .ok (.iload_n 1, 1) := by decide +kernel
theorem dX1_measureRacks_3 : decode cX1_measureRacks 3 = .ok (.aload_n 0, 1) := by decide +kernel
theorem dX1_measureRacks_4 : decode cX1_measureRacks 4 = .ok (.getfield 33, 3) := by decide +kernel
theorem dX1_measureRacks_7 : decode cX1_measureRacks 7 = .ok (.arraylength, 1) := by decide +kernel
theorem dX1_measureRacks_8 : decode cX1_measureRacks 8 = .ok (.if_icmp .ge 37, 3) := by decide +kernel
theorem dX1_measureRacks_11 : decode cX1_measureRacks 11 = .ok (.aload_n 0, 1) := by decide +kernel
theorem dX1_measureRacks_12 : decode cX1_measureRacks 12 = .ok (.getfield 12, 3) := by decide +kernel
theorem dX1_measureRacks_15 : decode cX1_measureRacks 15 = .ok (.iload_n 1, 1) := by decide +kernel
theorem dX1_measureRacks_16 : decode cX1_measureRacks 16 = .ok (.invokevirtual 82, 3) := by decide +kernel
theorem dX1_measureRacks_19 : decode cX1_measureRacks 19 = .ok (.astore_n 2, 1) := by decide +kernel
theorem dX1_measureRacks_20 : decode cX1_measureRacks 20 = .ok (.aload_n 0, 1) := by decide +kernel
theorem dX1_measureRacks_21 : decode cX1_measureRacks 21 = .ok (.getfield 33, 3) := by decide +kernel
theorem dX1_measureRacks_24 : decode cX1_measureRacks 24 = .ok (.iload_n 1, 1) := by decide +kernel
theorem dX1_measureRacks_25 : decode cX1_measureRacks 25 = .ok (.aload_n 2, 1) := by decide +kernel
theorem dX1_measureRacks_26 : decode cX1_measureRacks 26 = .ok (.ifnonnull 7, 3) := by decide +kernel
theorem dX1_measureRacks_29 : decode cX1_measureRacks 29 = .ok (.fconst 0, 1) := by decide +kernel
theorem dX1_measureRacks_30 : decode cX1_measureRacks 30 = .ok (.goto 8, 3) := by decide +kernel
theorem dX1_measureRacks_33 : decode cX1_measureRacks 33 = .ok (.aload_n 0, 1) := by decide +kernel
theorem dX1_measureRacks_34 : decode cX1_measureRacks 34 = .ok (.aload_n 2, 1) := by decide +kernel
theorem dX1_measureRacks_35 : decode cX1_measureRacks 35 = .ok (.invokevirtual 162, 3) := by decide +kernel
theorem dX1_measureRacks_38 : decode cX1_measureRacks 38 = .ok (.fastore, 1) := by decide +kernel
theorem dX1_measureRacks_39 : decode cX1_measureRacks 39 = .ok (.iinc 1 1, 3) := by decide +kernel
theorem dX1_measureRacks_42 : decode cX1_measureRacks 42 = .ok (.goto (-40), 3) := by decide +kernel
theorem dX1_measureRacks_45 : decode cX1_measureRacks 45 = .ok (.return_, 1) := by decide +kernel
theorem dX1_countRacksBefore_0 : decode cX1_countRacksBefore 0 = .ok (.iconst 0, 1) := by decide +kernel
theorem dX1_countRacksBefore_1 : decode cX1_countRacksBefore 1 = .ok (.istore_n 2, 1) := by decide +kernel
theorem dX1_countRacksBefore_2 : decode cX1_countRacksBefore 2 = .ok (.iconst 0, 1) := by decide +kernel
theorem dX1_countRacksBefore_3 : decode cX1_countRacksBefore 3 = .ok (.istore_n 3, 1) := by decide +kernel
theorem dX1_countRacksBefore_4 : decode cX1_countRacksBefore 4 = .ok (.iload_n 3, 1) := by decide +kernel
theorem dX1_countRacksBefore_5 : decode cX1_countRacksBefore 5 = .ok (.aload_n 0, 1) := by decide +kernel
theorem dX1_countRacksBefore_6 : decode cX1_countRacksBefore 6 = .ok (.getfield 12, 3) := by decide +kernel
theorem dX1_countRacksBefore_9 : decode cX1_countRacksBefore 9 = .ok (.getfield 90, 3) := by decide +kernel
theorem dX1_countRacksBefore_12 : decode cX1_countRacksBefore 12 = .ok (.if_icmp .ge 21, 3) := by decide +kernel
theorem dX1_countRacksBefore_15 : decode cX1_countRacksBefore 15 = .ok (.aload_n 0, 1) := by decide +kernel
theorem dX1_countRacksBefore_16 : decode cX1_countRacksBefore 16 = .ok (.iload_n 3, 1) := by decide +kernel
theorem dX1_countRacksBefore_17 : decode cX1_countRacksBefore 17 = .ok (.iload_n 1, 1) := by decide +kernel
theorem dX1_countRacksBefore_18 : decode cX1_countRacksBefore 18 = .ok (.invokevirtual 184, 3) := by decide +kernel
theorem dX1_countRacksBefore_21 : decode cX1_countRacksBefore 21 = .ok (.ifCond .eq 6, 3) := by decide +kernel
theorem dX1_countRacksBefore_24 : decode cX1_countRacksBefore 24 = .ok (.iinc 2 1, 3) := by decide +kernel
theorem dX1_countRacksBefore_27 : decode cX1_countRacksBefore 27 = .ok (.iinc 3 1, 3) := by decide +kernel
theorem dX1_countRacksBefore_30 : decode cX1_countRacksBefore 30 = .ok (.goto (-26), 3) := by decide +kernel
theorem dX1_countRacksBefore_33 : decode cX1_countRacksBefore 33 = .ok (.iload_n 2, 1) := by decide +kernel
theorem dX1_countRacksBefore_34 : decode cX1_countRacksBefore 34 = .ok (.ireturn, 1) := by decide +kernel
theorem dX1_comesRackBefore_0 : decode cX1_comesRackBefore 0 = .ok (.aload_n 0, 1) := by decide +kernel
theorem dX1_comesRackBefore_1 : decode cX1_comesRackBefore 1 = .ok (.iload_n 1, 1) := by decide +kernel
theorem dX1_comesRackBefore_2 : decode cX1_comesRackBefore 2 = .ok (.invokevirtual 187, 3) := by decide +kernel
theorem dX1_comesRackBefore_5 : decode cX1_comesRackBefore 5 = .ok (.fstore_n 3, 1) := by decide +kernel
theorem dX1_comesRackBefore_6 : decode cX1_comesRackBefore 6 = .ok (.aload_n 0, 1) := by decide +kernel
theorem dX1_comesRackBefore_7 : decode cX1_comesRackBefore 7 = .ok (.iload_n 2, 1) := by decide +kernel
theorem dX1_comesRackBefore_8 : decode cX1_comesRackBefore 8 = .ok (.invokevirtual 187, 3) := by decide +kernel
theorem dX1_comesRackBefore_11 : decode cX1_comesRackBefore 11 = .ok (.fstore 4, 2) := by decide +kernel
theorem dX1_comesRackBefore_13 : decode cX1_comesRackBefore 13 = .ok (.fload_n 3, 1) := by decide +kernel
theorem dX1_comesRackBefore_14 : decode cX1_comesRackBefore 14 = .ok (.fload 4, 2) := by decide +kernel
theorem dX1_comesRackBefore_16 : decode cX1_comesRackBefore 16 = .ok (.fcmp .l, 1) := by decide +kernel
theorem dX1_comesRackBefore_17 : decode cX1_comesRackBefore 17 = .ok (.ifCond .eq 16, 3) := by decide +kernel
theorem dX1_comesRackBefore_20 : decode cX1_comesRackBefore 20 = .ok (.fload_n 3, 1) := by decide +kernel
theorem dX1_comesRackBefore_21 : decode cX1_comesRackBefore 21 = .ok (.fload 4, 2) := by decide +kernel
theorem dX1_comesRackBefore_23 : decode cX1_comesRackBefore 23 = .ok (.fcmp .l, 1) := by decide +kernel
theorem dX1_comesRackBefore_24 : decode cX1_comesRackBefore 24 = .ok (.ifCond .le 7, 3) := by decide +kernel
theorem dX1_comesRackBefore_27 : decode cX1_comesRackBefore 27 = .ok (.iconst 1, 1) := by decide +kernel
theorem dX1_comesRackBefore_28 : decode cX1_comesRackBefore 28 = .ok (.goto 4, 3) := by decide +kernel
theorem dX1_comesRackBefore_31 : decode cX1_comesRackBefore 31 = .ok (.iconst 0, 1) := by decide +kernel
theorem dX1_comesRackBefore_32 : decode cX1_comesRackBefore 32 = .ok (.ireturn, 1) := by decide +kernel
theorem dX1_comesRackBefore_33 : decode cX1_comesRackBefore 33 = .ok (.aload_n 0, 1) := by decide +kernel
theorem dX1_comesRackBefore_34 : decode cX1_comesRackBefore 34 = .ok (.iload_n 1, 1) := by decide +kernel
theorem dX1_comesRackBefore_35 : decode cX1_comesRackBefore 35 = .ok (.invokevirtual 190, 3) := by decide +kernel
theorem dX1_comesRackBefore_38 : decode cX1_comesRackBefore 38 = .ok (.istore 5, 2) := by decide +kernel
theorem dX1_comesRackBefore_40 : decode cX1_comesRackBefore 40 = .ok (.aload_n 0, 1) := by decide +kernel
theorem dX1_comesRackBefore_41 : decode cX1_comesRackBefore 41 = .ok (.iload_n 2, 1) := by decide +kernel
theorem dX1_comesRackBefore_42 : decode cX1_comesRackBefore 42 = .ok (.invokevirtual 190, 3) := by decide +kernel
theorem dX1_comesRackBefore_45 : decode cX1_comesRackBefore 45 = .ok (.istore 6, 2) := by decide +kernel
theorem dX1_comesRackBefore_47 : decode cX1_comesRackBefore 47 = .ok (.iload 5, 2) := by decide +kernel
theorem dX1_comesRackBefore_49 : decode cX1_comesRackBefore 49 = .ok (.iload 6, 2) := by decide +kernel
theorem dX1_comesRackBefore_51 : decode cX1_comesRackBefore 51 = .ok (.if_icmp .eq 16, 3) := by decide +kernel
theorem dX1_comesRackBefore_54 : decode cX1_comesRackBefore 54 = .ok (.iload 5, 2) := by decide +kernel
theorem dX1_comesRackBefore_56 : decode cX1_comesRackBefore 56 = .ok (.iload 6, 2) := by decide +kernel
theorem dX1_comesRackBefore_58 : decode cX1_comesRackBefore 58 = .ok (.if_icmp .le 7, 3) := by decide +kernel
theorem dX1_comesRackBefore_61 : decode cX1_comesRackBefore 61 = .ok (.iconst 1, 1) := by decide +kernel
theorem dX1_comesRackBefore_62 : decode cX1_comesRackBefore 62 = .ok (.goto 4, 3) := by decide +kernel
theorem dX1_comesRackBefore_65 : decode cX1_comesRackBefore 65 = .ok (.iconst 0, 1) := by decide +kernel
theorem dX1_comesRackBefore_66 : decode cX1_comesRackBefore 66 = .ok (.ireturn, 1) := by decide +kernel
theorem dX1_comesRackBefore_67 : decode cX1_comesRackBefore 67 = .ok (.iload_n 1, 1) := by decide +kernel
theorem dX1_comesRackBefore_68 : decode cX1_comesRackBefore 68 = .ok (.iload_n 2, 1) := by decide +kernel
theorem dX1_comesRackBefore_69 : decode cX1_comesRackBefore 69 = .ok (.if_icmp .ge 7, 3) := by decide +kernel
theorem dX1_comesRackBefore_72 : decode cX1_comesRackBefore 72 = .ok (.iconst 1, 1) := by decide +kernel
theorem dX1_comesRackBefore_73 : decode cX1_comesRackBefore 73 = .ok (.goto 4, 3) := by decide +kernel
theorem dX1_comesRackBefore_76 : decode cX1_comesRackBefore 76 = .ok (.iconst 0, 1) := by decide +kernel
theorem dX1_comesRackBefore_77 : decode cX1_comesRackBefore 77 = .ok (.ireturn, 1) := by decide +kernel
theorem dX1_measuredAt_0 : decode cX1_measuredAt 0 = .ok (.iload_n 1, 1) := by decide +kernel
theorem dX1_measuredAt_1 : decode cX1_measuredAt 1 = .ok (.ifCond .lt 21, 3) := by decide +kernel
theorem dX1_measuredAt_4 : decode cX1_measuredAt 4 = .ok (.iload_n 1, 1) := by decide +kernel
theorem dX1_measuredAt_5 : decode cX1_measuredAt 5 = .ok (.aload_n 0, 1) := by decide +kernel
theorem dX1_measuredAt_6 : decode cX1_measuredAt 6 = .ok (.getfield 33, 3) := by decide +kernel
theorem dX1_measuredAt_9 : decode cX1_measuredAt 9 = .ok (.arraylength, 1) := by decide +kernel
theorem dX1_measuredAt_10 : decode cX1_measuredAt 10 = .ok (.if_icmp .ge 12, 3) := by decide +kernel
theorem dX1_measuredAt_13 : decode cX1_measuredAt 13 = .ok (.aload_n 0, 1) := by decide +kernel
theorem dX1_measuredAt_14 : decode cX1_measuredAt 14 = .ok (.getfield 33, 3) := by decide +kernel
theorem dX1_measuredAt_17 : decode cX1_measuredAt 17 = .ok (.iload_n 1, 1) := by decide +kernel
theorem dX1_measuredAt_18 : decode cX1_measuredAt 18 = .ok (.faload, 1) := by decide +kernel
theorem dX1_measuredAt_19 : decode cX1_measuredAt 19 = .ok (.goto 4, 3) := by decide +kernel
theorem dX1_measuredAt_22 : decode cX1_measuredAt 22 = .ok (.fconst 0, 1) := by decide +kernel
theorem dX1_measuredAt_23 : decode cX1_measuredAt 23 = .ok (.freturn, 1) := by decide +kernel
theorem dX1_loadOf_0 : decode cX1_loadOf 0 = .ok (.aload_n 0, 1) := by decide +kernel
theorem dX1_loadOf_1 : decode cX1_loadOf 1 = .ok (.getfield 12, 3) := by decide +kernel
theorem dX1_loadOf_4 : decode cX1_loadOf 4 = .ok (.iload_n 1, 1) := by decide +kernel
theorem dX1_loadOf_5 : decode cX1_loadOf 5 = .ok (.invokevirtual 82, 3) := by decide +kernel
theorem dX1_loadOf_8 : decode cX1_loadOf 8 = .ok (.astore_n 2, 1) := by decide +kernel
theorem dX1_loadOf_9 : decode cX1_loadOf 9 = .ok (.aload_n 2, 1) := by decide +kernel
theorem dX1_loadOf_10 : decode cX1_loadOf 10 = .ok (.ifnonnull 7, 3) := by decide +kernel
theorem dX1_loadOf_13 : decode cX1_loadOf 13 = .ok (.iconst 0, 1) := by decide +kernel
theorem dX1_loadOf_14 : decode cX1_loadOf 14 = .ok (.goto 7, 3) := by decide +kernel
theorem dX1_loadOf_17 : decode cX1_loadOf 17 = .ok (.aload_n 2, 1) := by decide +kernel
theorem dX1_loadOf_18 : decode cX1_loadOf 18 = .ok (.getfield 101, 3) := by decide +kernel
theorem dX1_loadOf_21 : decode cX1_loadOf 21 = .ok (.ireturn, 1) := by decide +kernel
theorem dX1_aisleAtRank_0 : decode cX1_aisleAtRank 0 = .ok (.iconst 0, 1) := by decide +kernel
theorem dX1_aisleAtRank_1 : decode cX1_aisleAtRank 1 = .ok (.istore_n 2, 1) := by decide +kernel
theorem dX1_aisleAtRank_2 : decode cX1_aisleAtRank 2 = .ok (.iload_n 2, 1) := by decide +kernel
theorem dX1_aisleAtRank_3 : decode cX1_aisleAtRank 3 = .ok (.iconst 4, 1) := by decide +kernel
theorem dX1_aisleAtRank_4 : decode cX1_aisleAtRank 4 = .ok (.if_icmp .ge 20, 3) := by decide +kernel
theorem dX1_aisleAtRank_7 : decode cX1_aisleAtRank 7 = .ok (.aload_n 0, 1) := by decide +kernel
theorem dX1_aisleAtRank_8 : decode cX1_aisleAtRank 8 = .ok (.iload_n 2, 1) := by decide +kernel
theorem dX1_aisleAtRank_9 : decode cX1_aisleAtRank 9 = .ok (.invokevirtual 193, 3) := by decide +kernel
theorem dX1_aisleAtRank_12 : decode cX1_aisleAtRank 12 = .ok (.iload_n 1, 1) := by decide +kernel
theorem dX1_aisleAtRank_13 : decode cX1_aisleAtRank 13 = .ok (.if_icmp .ne 5, 3) := by decide +kernel
theorem dX1_aisleAtRank_16 : decode cX1_aisleAtRank 16 = .ok (.iload_n 2, 1) := by decide +kernel
theorem dX1_aisleAtRank_17 : decode cX1_aisleAtRank 17 = .ok (.ireturn, 1) := by decide +kernel
theorem dX1_aisleAtRank_18 : decode cX1_aisleAtRank 18 = .ok (.iinc 2 1, 3) := by decide +kernel
theorem dX1_aisleAtRank_21 : decode cX1_aisleAtRank 21 = .ok (.goto (-19), 3) := by decide +kernel
theorem dX1_aisleAtRank_24 : decode cX1_aisleAtRank 24 = .ok (.iconst (-1), 1) := by decide +kernel
theorem dX1_aisleAtRank_25 : decode cX1_aisleAtRank 25 = .ok (.ireturn, 1) := by decide +kernel
theorem dX1_countAislesBefore_0 : decode cX1_countAislesBefore 0 = .ok (.iconst 0, 1) := by decide +kernel
theorem dX1_countAislesBefore_1 : decode cX1_countAislesBefore 1 = .ok (.istore_n 2, 1) := by decide +kernel
theorem dX1_countAislesBefore_2 : decode cX1_countAislesBefore 2 = .ok (.iconst 0, 1) := by decide +kernel
theorem dX1_countAislesBefore_3 : decode cX1_countAislesBefore 3 = .ok (.istore_n 3, 1) := by decide +kernel
theorem dX1_countAislesBefore_4 : decode cX1_countAislesBefore 4 = .ok (.iload_n 3, 1) := by decide +kernel
theorem dX1_countAislesBefore_5 : decode cX1_countAislesBefore 5 = .ok (.iconst 4, 1) := by decide +kernel
theorem dX1_countAislesBefore_6 : decode cX1_countAislesBefore 6 = .ok (.if_icmp .ge 21, 3) := by decide +kernel
theorem dX1_countAislesBefore_9 : decode cX1_countAislesBefore 9 = .ok (.aload_n 0, 1) := by decide +kernel
theorem dX1_countAislesBefore_10 : decode cX1_countAislesBefore 10 = .ok (.iload_n 3, 1) := by decide +kernel
theorem dX1_countAislesBefore_11 : decode cX1_countAislesBefore 11 = .ok (.iload_n 1, 1) := by decide +kernel
theorem dX1_countAislesBefore_12 : decode cX1_countAislesBefore 12 = .ok (.invokevirtual 196, 3) := by decide +kernel
theorem dX1_countAislesBefore_15 : decode cX1_countAislesBefore 15 = .ok (.ifCond .eq 6, 3) := by decide +kernel
theorem dX1_countAislesBefore_18 : decode cX1_countAislesBefore 18 = .ok (.iinc 2 1, 3) := by decide +kernel
theorem dX1_countAislesBefore_21 : decode cX1_countAislesBefore 21 = .ok (.iinc 3 1, 3) := by decide +kernel
theorem dX1_countAislesBefore_24 : decode cX1_countAislesBefore 24 = .ok (.goto (-20), 3) := by decide +kernel
theorem dX1_countAislesBefore_27 : decode cX1_countAislesBefore 27 = .ok (.iload_n 2, 1) := by decide +kernel
theorem dX1_countAislesBefore_28 : decode cX1_countAislesBefore 28 = .ok (.ireturn, 1) := by decide +kernel
theorem dX1_comesAisleBefore_0 : decode cX1_comesAisleBefore 0 = .ok (.aload_n 0, 1) := by decide +kernel
theorem dX1_comesAisleBefore_1 : decode cX1_comesAisleBefore 1 = .ok (.getfield 12, 3) := by decide +kernel
theorem dX1_comesAisleBefore_4 : decode cX1_comesAisleBefore 4 = .ok (.iload_n 1, 1) := by decide +kernel
theorem dX1_comesAisleBefore_5 : decode cX1_comesAisleBefore 5 = .ok (.invokevirtual 112, 3) := by decide +kernel
theorem dX1_comesAisleBefore_8 : decode cX1_comesAisleBefore 8 = .ok (.istore_n 3, 1) := by decide +kernel
theorem dX1_comesAisleBefore_9 : decode cX1_comesAisleBefore 9 = .ok (.aload_n 0, 1) := by decide +kernel
theorem dX1_comesAisleBefore_10 : decode cX1_comesAisleBefore 10 = .ok (.getfield 12, 3) := by decide +kernel
theorem dX1_comesAisleBefore_13 : decode cX1_comesAisleBefore 13 = .ok (.iload_n 2, 1) := by decide +kernel
theorem dX1_comesAisleBefore_14 : decode cX1_comesAisleBefore 14 = .ok (.invokevirtual 112, 3) := by decide +kernel
theorem dX1_comesAisleBefore_17 : decode cX1_comesAisleBefore 17 = .ok (.istore 4, 2) := by decide +kernel
theorem dX1_comesAisleBefore_19 : decode cX1_comesAisleBefore 19 = .ok (.iload_n 3, 1) := by decide +kernel
theorem dX1_comesAisleBefore_20 : decode cX1_comesAisleBefore 20 = .ok (.iload 4, 2) := by decide +kernel
theorem dX1_comesAisleBefore_22 : decode cX1_comesAisleBefore 22 = .ok (.if_icmp .eq 15, 3) := by decide +kernel
theorem dX1_comesAisleBefore_25 : decode cX1_comesAisleBefore 25 = .ok (.iload_n 3, 1) := by decide +kernel
theorem dX1_comesAisleBefore_26 : decode cX1_comesAisleBefore 26 = .ok (.iload 4, 2) := by decide +kernel
theorem dX1_comesAisleBefore_28 : decode cX1_comesAisleBefore 28 = .ok (.if_icmp .le 7, 3) := by decide +kernel
theorem dX1_comesAisleBefore_31 : decode cX1_comesAisleBefore 31 = .ok (.iconst 1, 1) := by decide +kernel
theorem dX1_comesAisleBefore_32 : decode cX1_comesAisleBefore 32 = .ok (.goto 4, 3) := by decide +kernel
theorem dX1_comesAisleBefore_35 : decode cX1_comesAisleBefore 35 = .ok (.iconst 0, 1) := by decide +kernel
theorem dX1_comesAisleBefore_36 : decode cX1_comesAisleBefore 36 = .ok (.ireturn, 1) := by decide +kernel
theorem dX1_comesAisleBefore_37 : decode cX1_comesAisleBefore 37 = .ok (.aload_n 0, 1) := by decide +kernel
theorem dX1_comesAisleBefore_38 : decode cX1_comesAisleBefore 38 = .ok (.getfield 25, 3) := by decide +kernel
theorem dX1_comesAisleBefore_41 : decode cX1_comesAisleBefore 41 = .ok (.iload_n 1, 1) := by decide +kernel
theorem dX1_comesAisleBefore_42 : decode cX1_comesAisleBefore 42 = .ok (.invokestatic 123, 3) := by decide +kernel
theorem dX1_comesAisleBefore_45 : decode cX1_comesAisleBefore 45 = .ok (.istore 5, 2) := by decide +kernel
theorem dX1_comesAisleBefore_47 : decode cX1_comesAisleBefore 47 = .ok (.aload_n 0, 1) := by decide +kernel
theorem dX1_comesAisleBefore_48 : decode cX1_comesAisleBefore 48 = .ok (.getfield 25, 3) := by decide +kernel
theorem dX1_comesAisleBefore_51 : decode cX1_comesAisleBefore 51 = .ok (.iload_n 2, 1) := by decide +kernel
theorem dX1_comesAisleBefore_52 : decode cX1_comesAisleBefore 52 = .ok (.invokestatic 123, 3) := by decide +kernel
theorem dX1_comesAisleBefore_55 : decode cX1_comesAisleBefore 55 = .ok (.istore 6, 2) := by decide +kernel
theorem dX1_comesAisleBefore_57 : decode cX1_comesAisleBefore 57 = .ok (.iload 5, 2) := by decide +kernel
theorem dX1_comesAisleBefore_59 : decode cX1_comesAisleBefore 59 = .ok (.iload 6, 2) := by decide +kernel
theorem dX1_comesAisleBefore_61 : decode cX1_comesAisleBefore 61 = .ok (.if_icmp .eq 16, 3) := by decide +kernel
theorem dX1_comesAisleBefore_64 : decode cX1_comesAisleBefore 64 = .ok (.iload 5, 2) := by decide +kernel
theorem dX1_comesAisleBefore_66 : decode cX1_comesAisleBefore 66 = .ok (.iload 6, 2) := by decide +kernel
theorem dX1_comesAisleBefore_68 : decode cX1_comesAisleBefore 68 = .ok (.if_icmp .le 7, 3) := by decide +kernel
theorem dX1_comesAisleBefore_71 : decode cX1_comesAisleBefore 71 = .ok (.iconst 1, 1) := by decide +kernel
theorem dX1_comesAisleBefore_72 : decode cX1_comesAisleBefore 72 = .ok (.goto 4, 3) := by decide +kernel
theorem dX1_comesAisleBefore_75 : decode cX1_comesAisleBefore 75 = .ok (.iconst 0, 1) := by decide +kernel
theorem dX1_comesAisleBefore_76 : decode cX1_comesAisleBefore 76 = .ok (.ireturn, 1) := by decide +kernel
theorem dX1_comesAisleBefore_77 : decode cX1_comesAisleBefore 77 = .ok (.iload_n 1, 1) := by decide +kernel
theorem dX1_comesAisleBefore_78 : decode cX1_comesAisleBefore 78 = .ok (.iload_n 2, 1) := by decide +kernel
theorem dX1_comesAisleBefore_79 : decode cX1_comesAisleBefore 79 = .ok (.if_icmp .ge 7, 3) := by decide +kernel
theorem dX1_comesAisleBefore_82 : decode cX1_comesAisleBefore 82 = .ok (.iconst 1, 1) := by decide +kernel
theorem dX1_comesAisleBefore_83 : decode cX1_comesAisleBefore 83 = .ok (.goto 4, 3) := by decide +kernel
theorem dX1_comesAisleBefore_86 : decode cX1_comesAisleBefore 86 = .ok (.iconst 0, 1) := by decide +kernel
theorem dX1_comesAisleBefore_87 : decode cX1_comesAisleBefore 87 = .ok (.ireturn, 1) := by decide +kernel
theorem dX3_init_0 : decode cX3_init 0 = .ok (.aload_n 0, 1) := by decide +kernel
theorem dX3_init_1 : decode cX3_init 1 = .ok (.invokespecial 3, 3) := by decide +kernel
theorem dX3_init_4 : decode cX3_init 4 = .ok (.aload_n 0, 1) := by decide +kernel
theorem dX3_init_5 : decode cX3_init 5 = .ok (.iconst 4, 1) := by decide +kernel
theorem dX3_init_6 : decode cX3_init 6 = .ok (.newarray .int, 2) := by decide +kernel
theorem dX3_init_8 : decode cX3_init 8 = .ok (.dup, 1) := by decide +kernel
theorem dX3_init_9 : decode cX3_init 9 = .ok (.iconst 0, 1) := by decide +kernel
theorem dX3_init_10 : decode cX3_init 10 = .ok (.iconst 5, 1) := by decide +kernel
theorem dX3_init_11 : decode cX3_init 11 = .ok (.iastore, 1) := by decide +kernel
theorem dX3_init_12 : decode cX3_init 12 = .ok (.dup, 1) := by decide +kernel
theorem dX3_init_13 : decode cX3_init 13 = .ok (.iconst 1, 1) := by decide +kernel
theorem dX3_init_14 : decode cX3_init 14 = .ok (.iconst 5, 1) := by decide +kernel
theorem dX3_init_15 : decode cX3_init 15 = .ok (.iastore, 1) := by decide +kernel
theorem dX3_init_16 : decode cX3_init 16 = .ok (.dup, 1) := by decide +kernel
theorem dX3_init_17 : decode cX3_init 17 = .ok (.iconst 2, 1) := by decide +kernel
theorem dX3_init_18 : decode cX3_init 18 = .ok (.iconst 5, 1) := by decide +kernel
theorem dX3_init_19 : decode cX3_init 19 = .ok (.iastore, 1) := by decide +kernel
theorem dX3_init_20 : decode cX3_init 20 = .ok (.dup, 1) := by decide +kernel
theorem dX3_init_21 : decode cX3_init 21 = .ok (.iconst 3, 1) := by decide +kernel
theorem dX3_init_22 : decode cX3_init 22 = .ok (.iconst 5, 1) := by decide +kernel
theorem dX3_init_23 : decode cX3_init 23 = .ok (.iastore, 1) := by decide +kernel
theorem dX3_init_24 : decode cX3_init 24 = .ok (.putfield 9, 3) := by decide +kernel
theorem dX3_init_27 : decode cX3_init 27 = .ok (.aload_n 0, 1) := by decide +kernel
theorem dX3_init_28 : decode cX3_init 28 = .ok (.iconst 3, 1) := by decide +kernel
theorem dX3_init_29 : decode cX3_init 29 = .ok (.newarray .int, 2) := by decide +kernel
theorem dX3_init_31 : decode cX3_init 31 = .ok (.dup, 1) := by decide +kernel
theorem dX3_init_32 : decode cX3_init 32 = .ok (.iconst 0, 1) := by decide +kernel
theorem dX3_init_33 : decode cX3_init 33 = .ok (.iconst 0, 1) := by decide +kernel
theorem dX3_init_34 : decode cX3_init 34 = .ok (.iastore, 1) := by decide +kernel
theorem dX3_init_35 : decode cX3_init 35 = .ok (.dup, 1) := by decide +kernel
theorem dX3_init_36 : decode cX3_init 36 = .ok (.iconst 1, 1) := by decide +kernel
theorem dX3_init_37 : decode cX3_init 37 = .ok (.bipush 50, 2) := by decide +kernel
theorem dX3_init_39 : decode cX3_init 39 = .ok (.iastore, 1) := by decide +kernel
theorem dX3_init_40 : decode cX3_init 40 = .ok (.dup, 1) := by decide +kernel
theorem dX3_init_41 : decode cX3_init 41 = .ok (.iconst 2, 1) := by decide +kernel
theorem dX3_init_42 : decode cX3_init 42 = .ok (.bipush 80, 2) := by decide +kernel
theorem dX3_init_44 : decode cX3_init 44 = .ok (.iastore, 1) := by decide +kernel
theorem dX3_init_45 : decode cX3_init 45 = .ok (.putfield 15, 3) := by decide +kernel
theorem dX3_init_48 : decode cX3_init 48 = .ok (.return_, 1) := by decide +kernel
theorem dX3_speedIn_0 : decode cX3_speedIn 0 = .ok (.aload_n 0, 1) := by decide +kernel
theorem dX3_speedIn_1 : decode cX3_speedIn 1 = .ok (.getfield 9, 3) := by decide +kernel
theorem dX3_speedIn_4 : decode cX3_speedIn 4 = .ok (.iload_n 1, 1) := by decide +kernel
theorem dX3_speedIn_5 : decode cX3_speedIn 5 = .ok (.invokestatic 18, 3) := by decide +kernel
theorem dX3_speedIn_8 : decode cX3_speedIn 8 = .ok (.ireturn, 1) := by decide +kernel
theorem dX3_pointAt_0 : decode cX3_pointAt 0 = .ok (.aload_n 0, 1) := by decide +kernel
theorem dX3_pointAt_1 : decode cX3_pointAt 1 = .ok (.getfield 15, 3) := by decide +kernel
theorem dX3_pointAt_4 : decode cX3_pointAt 4 = .ok (.iload_n 1, 1) := by decide +kernel
theorem dX3_pointAt_5 : decode cX3_pointAt 5 = .ok (.invokestatic 18, 3) := by decide +kernel
theorem dX3_pointAt_8 : decode cX3_pointAt 8 = .ok (.ireturn, 1) := by decide +kernel
theorem dX3_airflowFor_0 : decode cX3_airflowFor 0 = .ok (.iload_n 1, 1) := by decide +kernel
theorem dX3_airflowFor_1 : decode cX3_airflowFor 1 = .ok (.iconst 5, 1) := by decide +kernel
theorem dX3_airflowFor_2 : decode cX3_airflowFor 2 = .ok (.if_icmp .gt 7, 3) := by decide +kernel
theorem dX3_airflowFor_5 : decode cX3_airflowFor 5 = .ok (.iconst 0, 1) := by decide +kernel
theorem dX3_airflowFor_6 : decode cX3_airflowFor 6 = .ok (.goto 4, 3) := by decide +kernel
theorem dX3_airflowFor_9 : decode cX3_airflowFor 9 = .ok (.iconst 1, 1) := by decide +kernel
theorem dX3_airflowFor_10 : decode cX3_airflowFor 10 = .ok (.istore_n 2, 1) := by decide +kernel
theorem dX3_airflowFor_11 : decode cX3_airflowFor 11 = .ok (.aload_n 0, 1) := by decide +kernel
theorem dX3_airflowFor_12 : decode cX3_airflowFor 12 = .ok (.getfield 15, 3) := by decide +kernel
theorem dX3_airflowFor_15 : decode cX3_airflowFor 15 = .ok (.iload_n 2, 1) := by decide +kernel
theorem dX3_airflowFor_16 : decode cX3_airflowFor 16 = .ok (.invokestatic 18, 3) := by decide +kernel
theorem dX3_airflowFor_19 : decode cX3_airflowFor 19 = .ok (.istore_n 3, 1) := by decide +kernel
theorem dX3_airflowFor_20 : decode cX3_airflowFor 20 = .ok (.aload_n 0, 1) := by decide +kernel
theorem dX3_airflowFor_21 : decode cX3_airflowFor 21 = .ok (.getfield 15, 3) := by decide +kernel
theorem dX3_airflowFor_24 : decode cX3_airflowFor 24 = .ok (.iload_n 2, 1) := by decide +kernel
theorem dX3_airflowFor_25 : decode cX3_airflowFor 25 = .ok (.iconst 1, 1) := by decide +kernel
theorem dX3_airflowFor_26 : decode cX3_airflowFor 26 = .ok (.iadd, 1) := by decide +kernel
theorem dX3_airflowFor_27 : decode cX3_airflowFor 27 = .ok (.invokestatic 18, 3) := by decide +kernel
theorem dX3_airflowFor_30 : decode cX3_airflowFor 30 = .ok (.istore 4, 2) := by decide +kernel
theorem dX3_airflowFor_32 : decode cX3_airflowFor 32 = .ok (.iload_n 1, 1) := by decide +kernel
theorem dX3_airflowFor_33 : decode cX3_airflowFor 33 = .ok (.iload_n 2, 1) := by decide +kernel
theorem dX3_airflowFor_34 : decode cX3_airflowFor 34 = .ok (.iconst 5, 1) := by decide +kernel
theorem dX3_airflowFor_35 : decode cX3_airflowFor 35 = .ok (.imul, 1) := by decide +kernel
theorem dX3_airflowFor_36 : decode cX3_airflowFor 36 = .ok (.isub, 1) := by decide +kernel
theorem dX3_airflowFor_37 : decode cX3_airflowFor 37 = .ok (.istore 5, 2) := by decide +kernel
theorem dX3_airflowFor_39 : decode cX3_airflowFor 39 = .ok (.iload_n 3, 1) := by decide +kernel
theorem dX3_airflowFor_40 : decode cX3_airflowFor 40 = .ok (.i2f, 1) := by decide +kernel
theorem dX3_airflowFor_41 : decode cX3_airflowFor 41 = .ok (.iload 4, 2) := by decide +kernel
theorem dX3_airflowFor_43 : decode cX3_airflowFor 43 = .ok (.iload_n 3, 1) := by decide +kernel
theorem dX3_airflowFor_44 : decode cX3_airflowFor 44 = .ok (.isub, 1) := by decide +kernel
theorem dX3_airflowFor_45 : decode cX3_airflowFor 45 = .ok (.i2f, 1) := by decide +kernel
theorem dX3_airflowFor_46 : decode cX3_airflowFor 46 = .ok (.iload 5, 2) := by decide +kernel
theorem dX3_airflowFor_48 : decode cX3_airflowFor 48 = .ok (.i2f, 1) := by decide +kernel
theorem dX3_airflowFor_49 : decode cX3_airflowFor 49 = .ok (.fmul, 1) := by decide +kernel
theorem dX3_airflowFor_50 : decode cX3_airflowFor 50 = .ok (.ldc 22, 2) := by decide +kernel
theorem dX3_airflowFor_52 : decode cX3_airflowFor 52 = .ok (.fdiv, 1) := by decide +kernel
theorem dX3_airflowFor_53 : decode cX3_airflowFor 53 = .ok (.fadd, 1) := by decide +kernel
theorem dX3_airflowFor_54 : decode cX3_airflowFor 54 = .ok (.freturn, 1) := by decide +kernel
theorem dX3_changeSpeed_0 : decode cX3_changeSpeed 0 = .ok (.iload_n 1, 1) := by decide +kernel
theorem dX3_changeSpeed_1 : decode cX3_changeSpeed 1 = .ok (.invokestatic 23, 3) := by decide +kernel
theorem dX3_changeSpeed_4 : decode cX3_changeSpeed 4 = .ok (.ifCond .ne 5, 3) := by decide +kernel
theorem dX3_changeSpeed_7 : decode cX3_changeSpeed 7 = .ok (.iconst (-1), 1) := by decide +kernel
theorem dX3_changeSpeed_8 : decode cX3_changeSpeed 8 = .ok (.ireturn, 1) := by decide +kernel
theorem dX3_changeSpeed_9 : decode cX3_changeSpeed 9 = .ok (.iload_n 2, 1) := by decide +kernel
theorem dX3_changeSpeed_10 : decode cX3_changeSpeed 10 = .ok (.invokestatic 27, 3) := by decide +kernel
theorem dX3_changeSpeed_13 : decode cX3_changeSpeed 13 = .ok (.ifCond .ne 6, 3) := by decide +kernel
theorem dX3_changeSpeed_16 : decode cX3_changeSpeed 16 = .ok (.bipush (-2), 2) := by decide +kernel
theorem dX3_changeSpeed_18 : decode cX3_changeSpeed 18 = .ok (.ireturn, 1) := by decide +kernel
theorem dX3_changeSpeed_19 : decode cX3_changeSpeed 19 = .ok (.aload_n 0, 1) := by decide +kernel
theorem dX3_changeSpeed_20 : decode cX3_changeSpeed 20 = .ok (.getfield 9, 3) := by decide +kernel
theorem dX3_changeSpeed_23 : decode cX3_changeSpeed 23 = .ok (.iload_n 1, 1) := by decide +kernel
theorem dX3_changeSpeed_24 : decode cX3_changeSpeed 24 = .ok (.invokestatic 18, 3) := by decide +kernel
theorem dX3_changeSpeed_27 : decode cX3_changeSpeed 27 = .ok (.istore_n 3, 1) := by decide +kernel
theorem dX3_changeSpeed_28 : decode cX3_changeSpeed 28 = .ok (.aload_n 0, 1) := by decide +kernel
theorem dX3_changeSpeed_29 : decode cX3_changeSpeed 29 = .ok (.getfield 9, 3) := by decide +kernel
theorem dX3_changeSpeed_32 : decode cX3_changeSpeed 32 = .ok (.iload_n 1, 1) := by decide +kernel
theorem dX3_changeSpeed_33 : decode cX3_changeSpeed 33 = .ok (.iload_n 2, 1) := by decide +kernel
theorem dX3_changeSpeed_34 : decode cX3_changeSpeed 34 = .ok (.invokestatic 30, 3) := by decide +kernel
theorem dX3_changeSpeed_37 : decode cX3_changeSpeed 37 = .ok (.iload_n 3, 1) := by decide +kernel
theorem dX3_changeSpeed_38 : decode cX3_changeSpeed 38 = .ok (.ireturn, 1) := by decide +kernel
theorem dX3_changePoint_0 : decode cX3_changePoint 0 = .ok (.iload_n 1, 1) := by decide +kernel
theorem dX3_changePoint_1 : decode cX3_changePoint 1 = .ok (.invokestatic 34, 3) := by decide +kernel
theorem dX3_changePoint_4 : decode cX3_changePoint 4 = .ok (.ifCond .ne 5, 3) := by decide +kernel
theorem dX3_changePoint_7 : decode cX3_changePoint 7 = .ok (.iconst (-1), 1) := by decide +kernel
theorem dX3_changePoint_8 : decode cX3_changePoint 8 = .ok (.ireturn, 1) := by decide +kernel
theorem dX3_changePoint_9 : decode cX3_changePoint 9 = .ok (.iload_n 2, 1) := by decide +kernel
theorem dX3_changePoint_10 : decode cX3_changePoint 10 = .ok (.iconst 0, 1) := by decide +kernel
theorem dX3_changePoint_11 : decode cX3_changePoint 11 = .ok (.sipush 200, 3) := by decide +kernel
theorem dX3_changePoint_14 : decode cX3_changePoint 14 = .ok (.invokestatic 37, 3) := by decide +kernel
theorem dX3_changePoint_17 : decode cX3_changePoint 17 = .ok (.ifCond .ne 6, 3) := by decide +kernel
theorem dX3_changePoint_20 : decode cX3_changePoint 20 = .ok (.bipush (-2), 2) := by decide +kernel
theorem dX3_changePoint_22 : decode cX3_changePoint 22 = .ok (.ireturn, 1) := by decide +kernel
theorem dX3_changePoint_23 : decode cX3_changePoint 23 = .ok (.iload_n 1, 1) := by decide +kernel
theorem dX3_changePoint_24 : decode cX3_changePoint 24 = .ok (.ifCond .ne 7, 3) := by decide +kernel
theorem dX3_changePoint_27 : decode cX3_changePoint 27 = .ok (.iconst 0, 1) := by decide +kernel
theorem dX3_changePoint_28 : decode cX3_changePoint 28 = .ok (.goto 13, 3) := by decide +kernel
theorem dX3_changePoint_31 : decode cX3_changePoint 31 = .ok (.aload_n 0, 1) := by decide +kernel
theorem dX3_changePoint_32 : decode cX3_changePoint 32 = .ok (.getfield 15, 3) := by decide +kernel
theorem dX3_changePoint_35 : decode cX3_changePoint 35 = .ok (.iload_n 1, 1) := by decide +kernel
theorem dX3_changePoint_36 : decode cX3_changePoint 36 = .ok (.iconst 1, 1) := by decide +kernel
theorem dX3_changePoint_37 : decode cX3_changePoint 37 = .ok (.isub, 1) := by decide +kernel
theorem dX3_changePoint_38 : decode cX3_changePoint 38 = .ok (.invokestatic 18, 3) := by decide +kernel
theorem dX3_changePoint_41 : decode cX3_changePoint 41 = .ok (.istore_n 3, 1) := by decide +kernel
theorem dX3_changePoint_42 : decode cX3_changePoint 42 = .ok (.iload_n 1, 1) := by decide +kernel
theorem dX3_changePoint_43 : decode cX3_changePoint 43 = .ok (.iconst 2, 1) := by decide +kernel
theorem dX3_changePoint_44 : decode cX3_changePoint 44 = .ok (.if_icmp .ne 9, 3) := by decide +kernel
theorem dX3_changePoint_47 : decode cX3_changePoint 47 = .ok (.sipush 200, 3) := by decide +kernel
theorem dX3_changePoint_50 : decode cX3_changePoint 50 = .ok (.goto 13, 3) := by decide +kernel
theorem dX3_changePoint_53 : decode cX3_changePoint 53 = .ok (.aload_n 0, 1) := by decide +kernel
theorem dX3_changePoint_54 : decode cX3_changePoint 54 = .ok (.getfield 15, 3) := by decide +kernel
theorem dX3_changePoint_57 : decode cX3_changePoint 57 = .ok (.iload_n 1, 1) := by decide +kernel
theorem dX3_changePoint_58 : decode cX3_changePoint 58 = .ok (.iconst 1, 1) := by decide +kernel
theorem dX3_changePoint_59 : decode cX3_changePoint 59 = .ok (.iadd, 1) := by decide +kernel
theorem dX3_changePoint_60 : decode cX3_changePoint 60 = .ok (.invokestatic 18, 3) := by decide +kernel
theorem dX3_changePoint_63 : decode cX3_changePoint 63 = .ok (.istore 4, 2) := by decide +kernel
theorem dX3_changePoint_65 : decode cX3_changePoint 65 = .ok (.iload_n 2, 1) := by decide +kernel
theorem dX3_changePoint_66 : decode cX3_changePoint 66 = .ok (.iload_n 3, 1) := by decide +kernel
theorem dX3_changePoint_67 : decode cX3_changePoint 67 = .ok (.iload 4, 2) := by decide +kernel
theorem dX3_changePoint_69 : decode cX3_changePoint 69 = .ok (.invokestatic 37, 3) := by decide +kernel
theorem dX3_changePoint_72 : decode cX3_changePoint 72 = .ok (.ifCond .ne 6, 3) := by decide +kernel
theorem dX3_changePoint_75 : decode cX3_changePoint 75 = .ok (.bipush (-4), 2) := by decide +kernel
theorem dX3_changePoint_77 : decode cX3_changePoint 77 = .ok (.ireturn, 1) := by decide +kernel
theorem dX3_changePoint_78 : decode cX3_changePoint 78 = .ok (.aload_n 0, 1) := by decide +kernel
theorem dX3_changePoint_79 : decode cX3_changePoint 79 = .ok (.getfield 15, 3) := by decide +kernel
theorem dX3_changePoint_82 : decode cX3_changePoint 82 = .ok (.iload_n 1, 1) := by decide +kernel
theorem dX3_changePoint_83 : decode cX3_changePoint 83 = .ok (.invokestatic 18, 3) := by decide +kernel
theorem dX3_changePoint_86 : decode cX3_changePoint 86 = .ok (.istore 5, 2) := by decide +kernel
theorem dX3_changePoint_88 : decode cX3_changePoint 88 = .ok (.aload_n 0, 1) := by decide +kernel
theorem dX3_changePoint_89 : decode cX3_changePoint 89 = .ok (.getfield 15, 3) := by decide +kernel
theorem dX3_changePoint_92 : decode cX3_changePoint 92 = .ok (.iload_n 1, 1) := by decide +kernel
theorem dX3_changePoint_93 : decode cX3_changePoint 93 = .ok (.iload_n 2, 1) := by decide +kernel
theorem dX3_changePoint_94 : decode cX3_changePoint 94 = .ok (.invokestatic 30, 3) := by decide +kernel
theorem dX3_changePoint_97 : decode cX3_changePoint 97 = .ok (.iload 5, 2) := by decide +kernel
theorem dX3_changePoint_99 : decode cX3_changePoint 99 = .ok (.ireturn, 1) := by decide +kernel
theorem dX3_copyFrom_0 : decode cX3_copyFrom 0 = .ok (.aload_n 1, 1) := by decide +kernel
theorem dX3_copyFrom_1 : decode cX3_copyFrom 1 = .ok (.getfield 9, 3) := by decide +kernel
theorem dX3_copyFrom_4 : decode cX3_copyFrom 4 = .ok (.aload_n 0, 1) := by decide +kernel
theorem dX3_copyFrom_5 : decode cX3_copyFrom 5 = .ok (.getfield 9, 3) := by decide +kernel
theorem dX3_copyFrom_8 : decode cX3_copyFrom 8 = .ok (.invokestatic 41, 3) := by decide +kernel
theorem dX3_copyFrom_11 : decode cX3_copyFrom 11 = .ok (.aload_n 1, 1) := by decide +kernel
theorem dX3_copyFrom_12 : decode cX3_copyFrom 12 = .ok (.getfield 15, 3) := by decide +kernel
theorem dX3_copyFrom_15 : decode cX3_copyFrom 15 = .ok (.aload_n 0, 1) := by decide +kernel
theorem dX3_copyFrom_16 : decode cX3_copyFrom 16 = .ok (.getfield 15, 3) := by decide +kernel
theorem dX3_copyFrom_19 : decode cX3_copyFrom 19 = .ok (.invokestatic 41, 3) := by decide +kernel
theorem dX3_copyFrom_22 : decode cX3_copyFrom 22 = .ok (.return_, 1) := by decide +kernel
theorem dX4_init_0 : decode cX4_init 0 = .ok (.aload_n 0, 1) := by decide +kernel
theorem dX4_init_1 : decode cX4_init 1 = .ok (.invokespecial 1, 3) := by decide +kernel
theorem dX4_init_4 : decode cX4_init 4 = .ok (.return_, 1) := by decide +kernel
theorem dX4_copyFrom_0 : decode cX4_copyFrom 0 = .ok (.aload_n 0, 1) := by decide +kernel
theorem dX4_copyFrom_1 : decode cX4_copyFrom 1 = .ok (.aload_n 1, 1) := by decide +kernel
theorem dX4_copyFrom_2 : decode cX4_copyFrom 2 = .ok (.getfield 7, 3) := by decide +kernel
theorem dX4_copyFrom_5 : decode cX4_copyFrom 5 = .ok (.putfield 7, 3) := by decide +kernel
theorem dX4_copyFrom_8 : decode cX4_copyFrom 8 = .ok (.aload_n 0, 1) := by decide +kernel
theorem dX4_copyFrom_9 : decode cX4_copyFrom 9 = .ok (.aload_n 1, 1) := by decide +kernel
theorem dX4_copyFrom_10 : decode cX4_copyFrom 10 = .ok (.getfield 13, 3) := by decide +kernel
theorem dX4_copyFrom_13 : decode cX4_copyFrom 13 = .ok (.putfield 13, 3) := by decide +kernel
theorem dX4_copyFrom_16 : decode cX4_copyFrom 16 = .ok (.aload_n 0, 1) := by decide +kernel
theorem dX4_copyFrom_17 : decode cX4_copyFrom 17 = .ok (.aload_n 1, 1) := by decide +kernel
theorem dX4_copyFrom_18 : decode cX4_copyFrom 18 = .ok (.getfield 16, 3) := by decide +kernel
theorem dX4_copyFrom_21 : decode cX4_copyFrom 21 = .ok (.putfield 16, 3) := by decide +kernel
theorem dX4_copyFrom_24 : decode cX4_copyFrom 24 = .ok (.return_, 1) := by decide +kernel
theorem dX5_init_0 : decode cX5_init 0 = .ok (.aload_n 0, 1) := by decide +kernel
theorem dX5_init_1 : decode cX5_init 1 = .ok (.invokespecial 3, 3) := by decide +kernel
theorem dX5_init_4 : decode cX5_init 4 = .ok (.aload_n 0, 1) := by decide +kernel
theorem dX5_init_5 : decode cX5_init 5 = .ok (.bipush 12, 2) := by decide +kernel
theorem dX5_init_7 : decode cX5_init 7 = .ok (.anewarray 9, 3) := by decide +kernel
theorem dX5_init_10 : decode cX5_init 10 = .ok (.putfield 11, 3) := by decide +kernel
theorem dX5_init_13 : decode cX5_init 13 = .ok (.iconst 0, 1) := by decide +kernel
theorem dX5_init_14 : decode cX5_init 14 = .ok (.istore_n 1, 1) := by decide +kernel
theorem dX5_init_15 : decode cX5_init 15 = .ok (.iload_n 1, 1) := by decide +kernel
theorem dX5_init_16 : decode cX5_init 16 = .ok (.aload_n 0, 1) := by decide +kernel
theorem dX5_init_17 : decode cX5_init 17 = .ok (.getfield 11, 3) := by decide +kernel
theorem dX5_init_20 : decode cX5_init 20 = .ok (.arraylength, 1) := by decide +kernel
theorem dX5_init_21 : decode cX5_init 21 = .ok (.if_icmp .ge 22, 3) := by decide +kernel
theorem dX5_init_24 : decode cX5_init 24 = .ok (.aload_n 0, 1) := by decide +kernel
theorem dX5_init_25 : decode cX5_init 25 = .ok (.getfield 11, 3) := by decide +kernel
theorem dX5_init_28 : decode cX5_init 28 = .ok (.iload_n 1, 1) := by decide +kernel
theorem dX5_init_29 : decode cX5_init 29 = .ok (.new 9, 3) := by decide +kernel
theorem dX5_init_32 : decode cX5_init 32 = .ok (.dup, 1) := by decide +kernel
theorem dX5_init_33 : decode cX5_init 33 = .ok (.invokespecial 17, 3) := by decide +kernel
theorem dX5_init_36 : decode cX5_init 36 = .ok (.aastore, 1) := by decide +kernel
theorem dX5_init_37 : decode cX5_init 37 = .ok (.iinc 1 1, 3) := by decide +kernel
theorem dX5_init_40 : decode cX5_init 40 = .ok (.goto (-25), 3) := by decide +kernel
theorem dX5_init_43 : decode cX5_init 43 = .ok (.return_, 1) := by decide +kernel
theorem dX5_get_0 : decode cX5_get 0 = .ok (.iload_n 1, 1) := by decide +kernel
theorem dX5_get_1 : decode cX5_get 1 = .ok (.ifCond .lt 29, 3) := by decide +kernel
theorem dX5_get_4 : decode cX5_get 4 = .ok (.iload_n 1, 1) := by decide +kernel
theorem dX5_get_5 : decode cX5_get 5 = .ok (.aload_n 0, 1) := by decide +kernel
theorem dX5_get_6 : decode cX5_get 6 = .ok (.getfield 18, 3) := by decide +kernel
theorem dX5_get_9 : decode cX5_get 9 = .ok (.if_icmp .ge 21, 3) := by decide +kernel
theorem dX5_get_12 : decode cX5_get 12 = .ok (.iload_n 1, 1) := by decide +kernel
theorem dX5_get_13 : decode cX5_get 13 = .ok (.aload_n 0, 1) := by decide +kernel
theorem dX5_get_14 : decode cX5_get 14 = .ok (.getfield 11, 3) := by decide +kernel
theorem dX5_get_17 : decode cX5_get 17 = .ok (.arraylength, 1) := by decide +kernel
theorem dX5_get_18 : decode cX5_get 18 = .ok (.if_icmp .ge 12, 3) := by decide +kernel
theorem dX5_get_21 : decode cX5_get 21 = .ok (.aload_n 0, 1) := by decide +kernel
theorem dX5_get_22 : decode cX5_get 22 = .ok (.getfield 11, 3) := by decide +kernel
theorem dX5_get_25 : decode cX5_get 25 = .ok (.iload_n 1, 1) := by decide +kernel
theorem dX5_get_26 : decode cX5_get 26 = .ok (.aaload, 1) := by decide +kernel
theorem dX5_get_27 : decode cX5_get 27 = .ok (.goto 4, 3) := by decide +kernel
theorem dX5_get_30 : decode cX5_get 30 = .ok (.aconst_null, 1) := by decide +kernel
theorem dX5_get_31 : decode cX5_get 31 = .ok (.areturn, 1) := by decide +kernel
theorem dX5_find_0 : decode cX5_find 0 = .ok (.iconst 0, 1) := by decide +kernel
theorem dX5_find_1 : decode cX5_find 1 = .ok (.istore_n 3, 1) := by decide +kernel
theorem dX5_find_2 : decode cX5_find 2 = .ok (.iload_n 3, 1) := by decide +kernel
theorem dX5_find_3 : decode cX5_find 3 = .ok (.aload_n 0, 1) := by decide +kernel
theorem dX5_find_4 : decode cX5_find 4 = .ok (.getfield 18, 3) := by decide +kernel
theorem dX5_find_7 : decode cX5_find 7 = .ok (.if_icmp .ge 46, 3) := by decide +kernel
theorem dX5_find_10 : decode cX5_find 10 = .ok (.iload_n 3, 1) := by decide +kernel
theorem dX5_find_11 : decode cX5_find 11 = .ok (.aload_n 0, 1) := by decide +kernel
theorem dX5_find_12 : decode cX5_find 12 = .ok (.getfield 11, 3) := by decide +kernel
theorem dX5_find_15 : decode cX5_find 15 = .ok (.arraylength, 1) := by decide +kernel
theorem dX5_find_16 : decode cX5_find 16 = .ok (.if_icmp .ge 37, 3) := by decide +kernel
theorem dX5_find_19 : decode cX5_find 19 = .ok (.aload_n 0, 1) := by decide +kernel
theorem dX5_find_20 : decode cX5_find 20 = .ok (.getfield 11, 3) := by decide +kernel
theorem dX5_find_23 : decode cX5_find 23 = .ok (.iload_n 3, 1) := by decide +kernel
theorem dX5_find_24 : decode cX5_find 24 = .ok (.aaload, 1) := by decide +kernel
theorem dX5_find_25 : decode cX5_find 25 = .ok (.getfield 22, 3) := by decide +kernel
theorem dX5_find_28 : decode cX5_find 28 = .ok (.iload_n 1, 1) := by decide +kernel
theorem dX5_find_29 : decode cX5_find 29 = .ok (.if_icmp .ne 18, 3) := by decide +kernel
theorem dX5_find_32 : decode cX5_find 32 = .ok (.aload_n 0, 1) := by decide +kernel
theorem dX5_find_33 : decode cX5_find 33 = .ok (.getfield 11, 3) := by decide +kernel
theorem dX5_find_36 : decode cX5_find 36 = .ok (.iload_n 3, 1) := by decide +kernel
theorem dX5_find_37 : decode cX5_find 37 = .ok (.aaload, 1) := by decide +kernel
theorem dX5_find_38 : decode cX5_find 38 = .ok (.getfield 25, 3) := by decide +kernel
theorem dX5_find_41 : decode cX5_find 41 = .ok (.iload_n 2, 1) := by decide +kernel
theorem dX5_find_42 : decode cX5_find 42 = .ok (.if_icmp .ne 5, 3) := by decide +kernel
theorem dX5_find_45 : decode cX5_find 45 = .ok (.iload_n 3, 1) := by decide +kernel
theorem dX5_find_46 : decode cX5_find 46 = .ok (.ireturn, 1) := by decide +kernel
theorem dX5_find_47 : decode cX5_find 47 = .ok (.iinc 3 1, 3) := by decide +kernel
theorem dX5_find_50 : decode cX5_find 50 = .ok (.goto (-48), 3) := by decide +kernel
theorem dX5_find_53 : decode cX5_find 53 = .ok (.iconst (-1), 1) := by decide +kernel
theorem dX5_find_54 : decode cX5_find 54 = .ok (.ireturn, 1) := by decide +kernel
theorem dX5_heatIn_0 : decode cX5_heatIn 0 = .ok (.iconst 0, 1) := by decide +kernel
theorem dX5_heatIn_1 : decode cX5_heatIn 1 = .ok (.istore_n 2, 1) := by decide +kernel
theorem dX5_heatIn_2 : decode cX5_heatIn 2 = .ok (.iconst 0, 1) := by decide +kernel
theorem dX5_heatIn_3 : decode cX5_heatIn 3 = .ok (.istore_n 3, 1) := by decide +kernel
theorem dX5_heatIn_4 : decode cX5_heatIn 4 = .ok (.iload_n 3, 1) := by decide +kernel
theorem dX5_heatIn_5 : decode cX5_heatIn 5 = .ok (.aload_n 0, 1) := by decide +kernel
theorem dX5_heatIn_6 : decode cX5_heatIn 6 = .ok (.getfield 18, 3) := by decide +kernel
theorem dX5_heatIn_9 : decode cX5_heatIn 9 = .ok (.if_icmp .ge 47, 3) := by decide +kernel
theorem dX5_heatIn_12 : decode cX5_heatIn 12 = .ok (.iload_n 3, 1) := by decide +kernel
theorem dX5_heatIn_13 : decode cX5_heatIn 13 = .ok (.aload_n 0, 1) := by decide +kernel
theorem dX5_heatIn_14 : decode cX5_heatIn 14 = .ok (.getfield 11, 3) := by decide +kernel
theorem dX5_heatIn_17 : decode cX5_heatIn 17 = .ok (.arraylength, 1) := by decide +kernel
theorem dX5_heatIn_18 : decode cX5_heatIn 18 = .ok (.if_icmp .ge 38, 3) := by decide +kernel
theorem dX5_heatIn_21 : decode cX5_heatIn 21 = .ok (.iload_n 2, 1) := by decide +kernel
theorem dX5_heatIn_22 : decode cX5_heatIn 22 = .ok (.aload_n 0, 1) := by decide +kernel
theorem dX5_heatIn_23 : decode cX5_heatIn 23 = .ok (.getfield 11, 3) := by decide +kernel
theorem dX5_heatIn_26 : decode cX5_heatIn 26 = .ok (.iload_n 3, 1) := by decide +kernel
theorem dX5_heatIn_27 : decode cX5_heatIn 27 = .ok (.aaload, 1) := by decide +kernel
theorem dX5_heatIn_28 : decode cX5_heatIn 28 = .ok (.getfield 22, 3) := by decide +kernel
theorem dX5_heatIn_31 : decode cX5_heatIn 31 = .ok (.iload_n 1, 1) := by decide +kernel
theorem dX5_heatIn_32 : decode cX5_heatIn 32 = .ok (.if_icmp .ne 15, 3) := by decide +kernel
theorem dX5_heatIn_35 : decode cX5_heatIn 35 = .ok (.aload_n 0, 1) := by decide +kernel
theorem dX5_heatIn_36 : decode cX5_heatIn 36 = .ok (.getfield 11, 3) := by decide +kernel
theorem dX5_heatIn_39 : decode cX5_heatIn 39 = .ok (.iload_n 3, 1) := by decide +kernel
theorem dX5_heatIn_40 : decode cX5_heatIn 40 = .ok (.aaload, 1) := by decide +kernel
theorem dX5_heatIn_41 : decode cX5_heatIn 41 = .ok (.getfield 28, 3) := by decide +kernel
theorem dX5_heatIn_44 : decode cX5_heatIn 44 = .ok (.goto 4, 3) := by decide +kernel
theorem dX5_heatIn_47 : decode cX5_heatIn 47 = .ok (.iconst 0, 1) := by decide +kernel
theorem dX5_heatIn_48 : decode cX5_heatIn 48 = .ok (.iadd, 1) := by decide +kernel
theorem dX5_heatIn_49 : decode cX5_heatIn 49 = .ok (.istore_n 2, 1) := by decide +kernel
theorem dX5_heatIn_50 : decode cX5_heatIn 50 = .ok (.iinc 3 1, 3) := by decide +kernel
theorem dX5_heatIn_53 : decode cX5_heatIn 53 = .ok (.goto (-49), 3) := by decide +kernel
theorem dX5_heatIn_56 : decode cX5_heatIn 56 = .ok (.iload_n 2, 1) := by decide +kernel
theorem dX5_heatIn_57 : decode cX5_heatIn 57 = .ok (.ireturn, 1) := by decide +kernel
theorem dX5_sumByRacks_0 : decode cX5_sumByRacks 0 = .ok (.iconst 0, 1) := by decide +kernel
theorem dX5_sumByRacks_1 : decode cX5_sumByRacks 1 = .ok (.istore_n 1, 1) := by decide +kernel
theorem dX5_sumByRacks_2 : decode cX5_sumByRacks 2 = .ok (.iconst 0, 1) := by decide +kernel
theorem dX5_sumByRacks_3 : decode cX5_sumByRacks 3 = .ok (.istore_n 2, 1) := by decide +kernel
theorem dX5_sumByRacks_4 : decode cX5_sumByRacks 4 = .ok (.iload_n 2, 1) := by decide +kernel
theorem dX5_sumByRacks_5 : decode cX5_sumByRacks 5 = .ok (.aload_n 0, 1) := by decide +kernel
theorem dX5_sumByRacks_6 : decode cX5_sumByRacks 6 = .ok (.getfield 18, 3) := by decide +kernel
theorem dX5_sumByRacks_9 : decode cX5_sumByRacks 9 = .ok (.if_icmp .ge 30, 3) := by decide +kernel
theorem dX5_sumByRacks_12 : decode cX5_sumByRacks 12 = .ok (.iload_n 2, 1) := by decide +kernel
theorem dX5_sumByRacks_13 : decode cX5_sumByRacks 13 = .ok (.aload_n 0, 1) := by decide +kernel
theorem dX5_sumByRacks_14 : decode cX5_sumByRacks 14 = .ok (.getfield 11, 3) := by decide +kernel
theorem dX5_sumByRacks_17 : decode cX5_sumByRacks 17 = .ok (.arraylength, 1) := by decide +kernel
theorem dX5_sumByRacks_18 : decode cX5_sumByRacks 18 = .ok (.if_icmp .ge 21, 3) := by decide +kernel
theorem dX5_sumByRacks_21 : decode cX5_sumByRacks 21 = .ok (.iload_n 1, 1) := by decide +kernel
theorem dX5_sumByRacks_22 : decode cX5_sumByRacks 22 = .ok (.aload_n 0, 1) := by decide +kernel
theorem dX5_sumByRacks_23 : decode cX5_sumByRacks 23 = .ok (.getfield 11, 3) := by decide +kernel
theorem dX5_sumByRacks_26 : decode cX5_sumByRacks 26 = .ok (.iload_n 2, 1) := by decide +kernel
theorem dX5_sumByRacks_27 : decode cX5_sumByRacks 27 = .ok (.aaload, 1) := by decide +kernel
theorem dX5_sumByRacks_28 : decode cX5_sumByRacks 28 = .ok (.getfield 28, 3) := by decide +kernel
theorem dX5_sumByRacks_31 : decode cX5_sumByRacks 31 = .ok (.iadd, 1) := by decide +kernel
theorem dX5_sumByRacks_32 : decode cX5_sumByRacks 32 = .ok (.istore_n 1, 1) := by decide +kernel
theorem dX5_sumByRacks_33 : decode cX5_sumByRacks 33 = .ok (.iinc 2 1, 3) := by decide +kernel
theorem dX5_sumByRacks_36 : decode cX5_sumByRacks 36 = .ok (.goto (-32), 3) := by decide +kernel
theorem dX5_sumByRacks_39 : decode cX5_sumByRacks 39 = .ok (.iload_n 1, 1) := by decide +kernel
theorem dX5_sumByRacks_40 : decode cX5_sumByRacks 40 = .ok (.ireturn, 1) := by decide +kernel
theorem dX5_isFull_0 : decode cX5_isFull 0 = .ok (.aload_n 0, 1) := by decide +kernel
theorem dX5_isFull_1 : decode cX5_isFull 1 = .ok (.getfield 18, 3) := by decide +kernel
theorem dX5_isFull_4 : decode cX5_isFull 4 = .ok (.aload_n 0, 1) := by decide +kernel
theorem dX5_isFull_5 : decode cX5_isFull 5 = .ok (.getfield 11, 3) := by decide +kernel
theorem dX5_isFull_8 : decode cX5_isFull 8 = .ok (.arraylength, 1) := by decide +kernel
theorem dX5_isFull_9 : decode cX5_isFull 9 = .ok (.if_icmp .lt 7, 3) := by decide +kernel
theorem dX5_isFull_12 : decode cX5_isFull 12 = .ok (.iconst 1, 1) := by decide +kernel
theorem dX5_isFull_13 : decode cX5_isFull 13 = .ok (.goto 4, 3) := by decide +kernel
theorem dX5_isFull_16 : decode cX5_isFull 16 = .ok (.iconst 0, 1) := by decide +kernel
theorem dX5_isFull_17 : decode cX5_isFull 17 = .ok (.ireturn, 1) := by decide +kernel
theorem dX5_append_0 : decode cX5_append 0 = .ok (.aload_n 0, 1) := by decide +kernel
theorem dX5_append_1 : decode cX5_append 1 = .ok (.getfield 18, 3) := by decide +kernel
theorem dX5_append_4 : decode cX5_append 4 = .ok (.istore 4, 2) := by decide +kernel
theorem dX5_append_6 : decode cX5_append 6 = .ok (.iload 4, 2) := by decide +kernel
theorem dX5_append_8 : decode cX5_append 8 = .ok (.ifCond .lt 56, 3) := by decide +kernel
theorem dX5_append_11 : decode cX5_append 11 = .ok (.iload 4, 2) := by decide +kernel
theorem dX5_append_13 : decode cX5_append 13 = .ok (.aload_n 0, 1) := by decide +kernel
theorem dX5_append_14 : decode cX5_append 14 = .ok (.getfield 11, 3) := by decide +kernel
theorem dX5_append_17 : decode cX5_append 17 = .ok (.arraylength, 1) := by decide +kernel
theorem dX5_append_18 : decode cX5_append 18 = .ok (.if_icmp .ge 46, 3) := by decide +kernel
theorem dX5_append_21 : decode cX5_append 21 = .ok (.aload_n 0, 1) := by decide +kernel
theorem dX5_append_22 : decode cX5_append 22 = .ok (.getfield 11, 3) := by decide +kernel
theorem dX5_append_25 : decode cX5_append 25 = .ok (.iload 4, 2) := by decide +kernel
theorem dX5_append_27 : decode cX5_append 27 = .ok (.aaload, 1) := by decide +kernel
theorem dX5_append_28 : decode cX5_append 28 = .ok (.iload_n 1, 1) := by decide +kernel
theorem dX5_append_29 : decode cX5_append 29 = .ok (.putfield 22, 3) := by decide +kernel
theorem dX5_append_32 : decode cX5_append 32 = .ok (.aload_n 0, 1) := by decide +kernel
theorem dX5_append_33 : decode cX5_append 33 = .ok (.getfield 11, 3) := by decide +kernel
theorem dX5_append_36 : decode cX5_append 36 = .ok (.iload 4, 2) := by decide +kernel
theorem dX5_append_38 : decode cX5_append 38 = .ok (.aaload, 1) := by decide +kernel
theorem dX5_append_39 : decode cX5_append 39 = .ok (.iload_n 2, 1) := by decide +kernel
theorem dX5_append_40 : decode cX5_append 40 = .ok (.putfield 25, 3) := by decide +kernel
theorem dX5_append_43 : decode cX5_append 43 = .ok (.aload_n 0, 1) := by decide +kernel
theorem dX5_append_44 : decode cX5_append 44 = .ok (.getfield 11, 3) := by decide +kernel
theorem dX5_append_47 : decode cX5_append 47 = .ok (.iload 4, 2) := by decide +kernel
theorem dX5_append_49 : decode cX5_append 49 = .ok (.aaload, 1) := by decide +kernel
theorem dX5_append_50 : decode cX5_append 50 = .ok (.iload_n 3, 1) := by decide +kernel
theorem dX5_append_51 : decode cX5_append 51 = .ok (.putfield 28, 3) := by decide +kernel
theorem dX5_append_54 : decode cX5_append 54 = .ok (.aload_n 0, 1) := by decide +kernel
theorem dX5_append_55 : decode cX5_append 55 = .ok (.dup, 1) := by decide +kernel
theorem dX5_append_56 : decode cX5_append 56 = .ok (.getfield 18, 3) := by decide +kernel
theorem dX5_append_59 : decode cX5_append 59 = .ok (.iconst 1, 1) := by decide +kernel
theorem dX5_append_60 : decode cX5_append 60 = .ok (.iadd, 1) := by decide +kernel
theorem dX5_append_61 : decode cX5_append 61 = .ok (.putfield 18, 3) := by decide +kernel
theorem dX5_append_64 : decode cX5_append 64 = .ok (.iload 4, 2) := by decide +kernel
theorem dX5_append_66 : decode cX5_append 66 = .ok (.ireturn, 1) := by decide +kernel
theorem dX5_delete_0 : decode cX5_delete 0 = .ok (.iload_n 1, 1) := by decide +kernel
theorem dX5_delete_1 : decode cX5_delete 1 = .ok (.iconst 0, 1) := by decide +kernel
theorem dX5_delete_2 : decode cX5_delete 2 = .ok (.invokestatic 35, 3) := by decide +kernel
theorem dX5_delete_5 : decode cX5_delete 5 = .ok (.istore_n 2, 1) := by decide +kernel
theorem dX5_delete_6 : decode cX5_delete 6 = .ok (.iload_n 2, 1) := by decide +kernel
theorem dX5_delete_7 : decode cX5_delete 7 = .ok (.iconst 1, 1) := by decide +kernel
theorem dX5_delete_8 : decode cX5_delete 8 = .ok (.iadd, 1) := by decide +kernel
theorem dX5_delete_9 : decode cX5_delete 9 = .ok (.aload_n 0, 1) := by decide +kernel
theorem dX5_delete_10 : decode cX5_delete 10 = .ok (.getfield 18, 3) := by decide +kernel
theorem dX5_delete_13 : decode cX5_delete 13 = .ok (.if_icmp .ge 37, 3) := by decide +kernel
theorem dX5_delete_16 : decode cX5_delete 16 = .ok (.iload_n 2, 1) := by decide +kernel
theorem dX5_delete_17 : decode cX5_delete 17 = .ok (.iconst 1, 1) := by decide +kernel
theorem dX5_delete_18 : decode cX5_delete 18 = .ok (.iadd, 1) := by decide +kernel
theorem dX5_delete_19 : decode cX5_delete 19 = .ok (.aload_n 0, 1) := by decide +kernel
theorem dX5_delete_20 : decode cX5_delete 20 = .ok (.getfield 11, 3) := by decide +kernel
theorem dX5_delete_23 : decode cX5_delete 23 = .ok (.arraylength, 1) := by decide +kernel
theorem dX5_delete_24 : decode cX5_delete 24 = .ok (.if_icmp .ge 26, 3) := by decide +kernel
theorem dX5_delete_27 : decode cX5_delete 27 = .ok (.aload_n 0, 1) := by decide +kernel
theorem dX5_delete_28 : decode cX5_delete 28 = .ok (.getfield 11, 3) := by decide +kernel
theorem dX5_delete_31 : decode cX5_delete 31 = .ok (.iload_n 2, 1) := by decide +kernel
theorem dX5_delete_32 : decode cX5_delete 32 = .ok (.aaload, 1) := by decide +kernel
theorem dX5_delete_33 : decode cX5_delete 33 = .ok (.aload_n 0, 1) := by decide +kernel
theorem dX5_delete_34 : decode cX5_delete 34 = .ok (.getfield 11, 3) := by decide +kernel
theorem dX5_delete_37 : decode cX5_delete 37 = .ok (.iload_n 2, 1) := by decide +kernel
theorem dX5_delete_38 : decode cX5_delete 38 = .ok (.iconst 1, 1) := by decide +kernel
theorem dX5_delete_39 : decode cX5_delete 39 = .ok (.iadd, 1) := by decide +kernel
theorem dX5_delete_40 : decode cX5_delete 40 = .ok (.aaload, 1) := by decide +kernel
theorem dX5_delete_41 : decode cX5_delete 41 = .ok (.invokevirtual 41, 3) := by decide +kernel
theorem dX5_delete_44 : decode cX5_delete 44 = .ok (.iinc 2 1, 3) := by decide +kernel
theorem dX5_delete_47 : decode cX5_delete 47 = .ok (.goto (-41), 3) := by decide +kernel
theorem dX5_delete_50 : decode cX5_delete 50 = .ok (.aload_n 0, 1) := by decide +kernel
theorem dX5_delete_51 : decode cX5_delete 51 = .ok (.dup, 1) := by decide +kernel
theorem dX5_delete_52 : decode cX5_delete 52 = .ok (.getfield 18, 3) := by decide +kernel
theorem dX5_delete_55 : decode cX5_delete 55 = .ok (.iconst 1, 1) := by decide +kernel
theorem dX5_delete_56 : decode cX5_delete 56 = .ok (.isub, 1) := by decide +kernel
theorem dX5_delete_57 : decode cX5_delete 57 = .ok (.putfield 18, 3) := by decide +kernel
theorem dX5_delete_60 : decode cX5_delete 60 = .ok (.return_, 1) := by decide +kernel
theorem dX5_copyFrom_0 : decode cX5_copyFrom 0 = .ok (.aload_n 0, 1) := by decide +kernel
theorem dX5_copyFrom_1 : decode cX5_copyFrom 1 = .ok (.aload_n 1, 1) := by decide +kernel
theorem dX5_copyFrom_2 : decode cX5_copyFrom 2 = .ok (.getfield 18, 3) := by decide +kernel
theorem dX5_copyFrom_5 : decode cX5_copyFrom 5 = .ok (.putfield 18, 3) := by decide +kernel
theorem dX5_copyFrom_8 : decode cX5_copyFrom 8 = .ok (.iconst 0, 1) := by decide +kernel
theorem dX5_copyFrom_9 : decode cX5_copyFrom 9 = .ok (.istore_n 2, 1) := by decide +kernel
theorem dX5_copyFrom_10 : decode cX5_copyFrom 10 = .ok (.iload_n 2, 1) := by decide +kernel
theorem dX5_copyFrom_11 : decode cX5_copyFrom 11 = .ok (.aload_n 0, 1) := by decide +kernel
theorem dX5_copyFrom_12 : decode cX5_copyFrom 12 = .ok (.getfield 11, 3) := by decide +kernel
theorem dX5_copyFrom_15 : decode cX5_copyFrom 15 = .ok (.arraylength, 1) := by decide +kernel
theorem dX5_copyFrom_16 : decode cX5_copyFrom 16 = .ok (.if_icmp .ge 33, 3) := by decide +kernel
theorem dX5_copyFrom_19 : decode cX5_copyFrom 19 = .ok (.iload_n 2, 1) := by decide +kernel
theorem dX5_copyFrom_20 : decode cX5_copyFrom 20 = .ok (.aload_n 1, 1) := by decide +kernel
theorem dX5_copyFrom_21 : decode cX5_copyFrom 21 = .ok (.getfield 11, 3) := by decide +kernel
theorem dX5_copyFrom_24 : decode cX5_copyFrom 24 = .ok (.arraylength, 1) := by decide +kernel
theorem dX5_copyFrom_25 : decode cX5_copyFrom 25 = .ok (.if_icmp .ge 24, 3) := by decide +kernel
theorem dX5_copyFrom_28 : decode cX5_copyFrom 28 = .ok (.aload_n 0, 1) := by decide +kernel
theorem dX5_copyFrom_29 : decode cX5_copyFrom 29 = .ok (.getfield 11, 3) := by decide +kernel
theorem dX5_copyFrom_32 : decode cX5_copyFrom 32 = .ok (.iload_n 2, 1) := by decide +kernel
theorem dX5_copyFrom_33 : decode cX5_copyFrom 33 = .ok (.aaload, 1) := by decide +kernel
theorem dX5_copyFrom_34 : decode cX5_copyFrom 34 = .ok (.aload_n 1, 1) := by decide +kernel
theorem dX5_copyFrom_35 : decode cX5_copyFrom 35 = .ok (.getfield 11, 3) := by decide +kernel
theorem dX5_copyFrom_38 : decode cX5_copyFrom 38 = .ok (.iload_n 2, 1) := by decide +kernel
theorem dX5_copyFrom_39 : decode cX5_copyFrom 39 = .ok (.aaload, 1) := by decide +kernel
theorem dX5_copyFrom_40 : decode cX5_copyFrom 40 = .ok (.invokevirtual 41, 3) := by decide +kernel
theorem dX5_copyFrom_43 : decode cX5_copyFrom 43 = .ok (.iinc 2 1, 3) := by decide +kernel
theorem dX5_copyFrom_46 : decode cX5_copyFrom 46 = .ok (.goto (-36), 3) := by decide +kernel
theorem dX5_copyFrom_49 : decode cX5_copyFrom 49 = .ok (.return_, 1) := by decide +kernel
theorem dX6_init_0 : decode cX6_init 0 = .ok (.aload_n 0, 1) := by decide +kernel
theorem dX6_init_1 : decode cX6_init 1 = .ok (.invokespecial 3, 3) := by decide +kernel
theorem dX6_init_4 : decode cX6_init 4 = .ok (.aload_n 0, 1) := by decide +kernel
theorem dX6_init_5 : decode cX6_init 5 = .ok (.new 9, 3) := by decide +kernel
theorem dX6_init_8 : decode cX6_init 8 = .ok (.dup, 1) := by decide +kernel
theorem dX6_init_9 : decode cX6_init 9 = .ok (.invokespecial 11, 3) := by decide +kernel
theorem dX6_init_12 : decode cX6_init 12 = .ok (.putfield 12, 3) := by decide +kernel
theorem dX6_init_15 : decode cX6_init 15 = .ok (.aload_n 0, 1) := by decide +kernel
theorem dX6_init_16 : decode cX6_init 16 = .ok (.getstatic 18, 3) := by decide +kernel
theorem dX6_init_19 : decode cX6_init 19 = .ok (.putfield 24, 3) := by decide +kernel
theorem dX6_init_22 : decode cX6_init 22 = .ok (.aload_n 0, 1) := by decide +kernel
theorem dX6_init_23 : decode cX6_init 23 = .ok (.iconst 3, 1) := by decide +kernel
theorem dX6_init_24 : decode cX6_init 24 = .ok (.newarray .int, 2) := by decide +kernel
theorem dX6_init_26 : decode cX6_init 26 = .ok (.putfield 27, 3) := by decide +kernel
theorem dX6_init_29 : decode cX6_init 29 = .ok (.return_, 1) := by decide +kernel
theorem dX6_isFull_0 : decode cX6_isFull 0 = .ok (.aload_n 0, 1) := by decide +kernel
theorem dX6_isFull_1 : decode cX6_isFull 1 = .ok (.getfield 12, 3) := by decide +kernel
theorem dX6_isFull_4 : decode cX6_isFull 4 = .ok (.invokevirtual 31, 3) := by decide +kernel
theorem dX6_isFull_7 : decode cX6_isFull 7 = .ok (.bipush 60, 2) := by decide +kernel
theorem dX6_isFull_9 : decode cX6_isFull 9 = .ok (.if_icmp .lt 7, 3) := by decide +kernel
theorem dX6_isFull_12 : decode cX6_isFull 12 = .ok (.iconst 1, 1) := by decide +kernel
theorem dX6_isFull_13 : decode cX6_isFull 13 = .ok (.goto 4, 3) := by decide +kernel
theorem dX6_isFull_16 : decode cX6_isFull 16 = .ok (.iconst 0, 1) := by decide +kernel
theorem dX6_isFull_17 : decode cX6_isFull 17 = .ok (.ireturn, 1) := by decide +kernel
theorem dX6_append_0 : decode cX6_append 0 = .ok (.aload_n 0, 1) := by decide +kernel
theorem dX6_append_1 : decode cX6_append 1 = .ok (.getfield 12, 3) := by decide +kernel
theorem dX6_append_4 : decode cX6_append 4 = .ok (.iload_n 1, 1) := by decide +kernel
theorem dX6_append_5 : decode cX6_append 5 = .ok (.invokevirtual 35, 3) := by decide +kernel
theorem dX6_append_8 : decode cX6_append 8 = .ok (.pop, 1) := by decide +kernel
theorem dX6_append_9 : decode cX6_append 9 = .ok (.aload_n 0, 1) := by decide +kernel
theorem dX6_append_10 : decode cX6_append 10 = .ok (.getfield 12, 3) := by decide +kernel
theorem dX6_append_13 : decode cX6_append 13 = .ok (.invokevirtual 31, 3) := by decide +kernel
theorem dX6_append_16 : decode cX6_append 16 = .ok (.ireturn, 1) := by decide +kernel
theorem dX6_clear_0 : decode cX6_clear 0 = .ok (.aload_n 0, 1) := by decide +kernel
theorem dX6_clear_1 : decode cX6_clear 1 = .ok (.getfield 12, 3) := by decide +kernel
theorem dX6_clear_4 : decode cX6_clear 4 = .ok (.iconst 0, 1) := by decide +kernel
theorem dX6_clear_5 : decode cX6_clear 5 = .ok (.invokevirtual 39, 3) := by decide +kernel
theorem dX6_clear_8 : decode cX6_clear 8 = .ok (.return_, 1) := by decide +kernel
theorem dX6_countCommands_0 : decode cX6_countCommands 0 = .ok (.aload_n 0, 1) := by decide +kernel
theorem dX6_countCommands_1 : decode cX6_countCommands 1 = .ok (.iconst 0, 1) := by decide +kernel
theorem dX6_countCommands_2 : decode cX6_countCommands 2 = .ok (.putfield 43, 3) := by decide +kernel
theorem dX6_countCommands_5 : decode cX6_countCommands 5 = .ok (.aload_n 0, 1) := by decide +kernel
theorem dX6_countCommands_6 : decode cX6_countCommands 6 = .ok (.iconst 0, 1) := by decide +kernel
theorem dX6_countCommands_7 : decode cX6_countCommands 7 = .ok (.putfield 47, 3) := by decide +kernel
theorem dX6_countCommands_10 : decode cX6_countCommands 10 = .ok (.iconst 1, 1) := by decide +kernel
theorem dX6_countCommands_11 : decode cX6_countCommands 11 = .ok (.istore_n 1, 1) := by decide +kernel
theorem dX6_countCommands_12 : decode cX6_countCommands 12 = .ok (.iload_n 1, 1) := by decide +kernel
theorem dX6_countCommands_13 : decode cX6_countCommands 13 = .ok (.bipush 60, 2) := by decide +kernel
theorem dX6_countCommands_15 : decode cX6_countCommands 15 = .ok (.if_icmp .gt 45, 3) := by decide +kernel
theorem dX6_countCommands_18 : decode cX6_countCommands 18 = .ok (.aload_n 0, 1) := by decide +kernel
theorem dX6_countCommands_19 : decode cX6_countCommands 19 = .ok (.invokevirtual 50, 3) := by decide +kernel
theorem dX6_countCommands_22 : decode cX6_countCommands 22 = .ok (.ifCond .ne 5, 3) := by decide +kernel
theorem dX6_countCommands_25 : decode cX6_countCommands 25 = .ok (.iconst (-1), 1) := by decide +kernel
theorem dX6_countCommands_26 : decode cX6_countCommands 26 = .ok (.ireturn, 1) := by decide +kernel
theorem dX6_countCommands_27 : decode cX6_countCommands 27 = .ok (.aload_n 0, 1) := by decide +kernel
theorem dX6_countCommands_28 : decode cX6_countCommands 28 = .ok (.getfield 43, 3) := by decide +kernel
theorem dX6_countCommands_31 : decode cX6_countCommands 31 = .ok (.aload_n 0, 1) := by decide +kernel
theorem dX6_countCommands_32 : decode cX6_countCommands 32 = .ok (.getfield 12, 3) := by decide +kernel
theorem dX6_countCommands_35 : decode cX6_countCommands 35 = .ok (.invokevirtual 31, 3) := by decide +kernel
theorem dX6_countCommands_38 : decode cX6_countCommands 38 = .ok (.if_icmp .lt 5, 3) := by decide +kernel
theorem dX6_countCommands_41 : decode cX6_countCommands 41 = .ok (.iload_n 1, 1) := by decide +kernel
theorem dX6_countCommands_42 : decode cX6_countCommands 42 = .ok (.ireturn, 1) := by decide +kernel
theorem dX6_countCommands_43 : decode cX6_countCommands 43 = .ok (.aload_n 0, 1) := by decide +kernel
theorem dX6_countCommands_44 : decode cX6_countCommands 44 = .ok (.bipush 59, 2) := by decide +kernel
theorem dX6_countCommands_46 : decode cX6_countCommands 46 = .ok (.invokevirtual 54, 3) := by decide +kernel
theorem dX6_countCommands_49 : decode cX6_countCommands 49 = .ok (.ifCond .ne 5, 3) := by decide +kernel
theorem dX6_countCommands_52 : decode cX6_countCommands 52 = .ok (.iconst (-1), 1) := by decide +kernel
theorem dX6_countCommands_53 : decode cX6_countCommands 53 = .ok (.ireturn, 1) := by decide +kernel
theorem dX6_countCommands_54 : decode cX6_countCommands 54 = .ok (.iinc 1 1, 3) := by decide +kernel
theorem dX6_countCommands_57 : decode cX6_countCommands 57 = .ok (.goto (-45), 3) := by decide +kernel
theorem dX6_countCommands_60 : decode cX6_countCommands 60 = .ok (.iconst (-1), 1) := by decide +kernel
theorem dX6_countCommands_61 : decode cX6_countCommands 61 = .ok (.ireturn, 1) := by decide +kernel
theorem dX6_performOn_0 : decode cX6_performOn 0 = .ok (.aload_n 0, 1) := by decide +kernel
theorem dX6_performOn_1 : decode cX6_performOn 1 = .ok (.iconst 0, 1) := by decide +kernel
theorem dX6_performOn_2 : decode cX6_performOn 2 = .ok (.putfield 43, 3) := by decide +kernel
theorem dX6_performOn_5 : decode cX6_performOn 5 = .ok (.iconst 0, 1) := by decide +kernel
theorem dX6_performOn_6 : decode cX6_performOn 6 = .ok (.istore_n 3, 1) := by decide +kernel
theorem dX6_performOn_7 : decode cX6_performOn 7 = .ok (.iload_n 3, 1) := by decide +kernel
theorem dX6_performOn_8 : decode cX6_performOn 8 = .ok (.iload_n 2, 1) := by decide +kernel
theorem dX6_performOn_9 : decode cX6_performOn 9 = .ok (.if_icmp .ge 33, 3) := by decide +kernel
theorem dX6_performOn_12 : decode cX6_performOn 12 = .ok (.aload_n 0, 1) := by decide +kernel
theorem dX6_performOn_13 : decode cX6_performOn 13 = .ok (.invokevirtual 50, 3) := by decide +kernel
theorem dX6_performOn_16 : decode cX6_performOn 16 = .ok (.ifCond .eq 11, 3) := by decide +kernel
theorem dX6_performOn_19 : decode cX6_performOn 19 = .ok (.aload_n 0, 1) := by decide +kernel
theorem dX6_performOn_20 : decode cX6_performOn 20 = .ok (.aload_n 1, 1) := by decide +kernel
theorem dX6_performOn_21 : decode cX6_performOn 21 = .ok (.invokevirtual 58, 3) := by decide +kernel
theorem dX6_performOn_24 : decode cX6_performOn 24 = .ok (.ifCond .ge 5, 3) := by decide +kernel
theorem dX6_performOn_27 : decode cX6_performOn 27 = .ok (.iload_n 3, 1) := by decide +kernel
theorem dX6_performOn_28 : decode cX6_performOn 28 = .ok (.ireturn, 1) := by decide +kernel
theorem dX6_performOn_29 : decode cX6_performOn 29 = .ok (.aload_n 0, 1) := by decide +kernel
theorem dX6_performOn_30 : decode cX6_performOn 30 = .ok (.bipush 59, 2) := by decide +kernel
theorem dX6_performOn_32 : decode cX6_performOn 32 = .ok (.invokevirtual 54, 3) := by decide +kernel
theorem dX6_performOn_35 : decode cX6_performOn 35 = .ok (.pop, 1) := by decide +kernel
theorem dX6_performOn_36 : decode cX6_performOn 36 = .ok (.iinc 3 1, 3) := by decide +kernel
theorem dX6_performOn_39 : decode cX6_performOn 39 = .ok (.goto (-32), 3) := by decide +kernel
theorem dX6_performOn_42 : decode cX6_performOn 42 = .ok (.iload_n 2, 1) := by decide +kernel
theorem dX6_performOn_43 : decode cX6_performOn 43 = .ok (.ireturn, 1) := by decide +kernel
theorem dX6_perform_0 : decode cX6_perform 0 = .ok (.aload_n 0, 1) := by decide +kernel
theorem dX6_perform_1 : decode cX6_perform 1 = .ok (.getfield 27, 3) := by decide +kernel
theorem dX6_perform_4 : decode cX6_perform 4 = .ok (.iconst 0, 1) := by decide +kernel
theorem dX6_perform_5 : decode cX6_perform 5 = .ok (.invokestatic 62, 3) := by decide +kernel
theorem dX6_perform_8 : decode cX6_perform 8 = .ok (.istore_n 2, 1) := by decide +kernel
theorem dX6_perform_9 : decode cX6_perform 9 = .ok (.aload_n 0, 1) := by decide +kernel
theorem dX6_perform_10 : decode cX6_perform 10 = .ok (.getfield 27, 3) := by decide +kernel
theorem dX6_perform_13 : decode cX6_perform 13 = .ok (.iconst 1, 1) := by decide +kernel
theorem dX6_perform_14 : decode cX6_perform 14 = .ok (.invokestatic 62, 3) := by decide +kernel
theorem dX6_perform_17 : decode cX6_perform 17 = .ok (.istore_n 3, 1) := by decide +kernel
theorem dX6_perform_18 : decode cX6_perform 18 = .ok (.aload_n 0, 1) := by decide +kernel
theorem dX6_perform_19 : decode cX6_perform 19 = .ok (.getfield 27, 3) := by decide +kernel
theorem dX6_perform_22 : decode cX6_perform 22 = .ok (.iconst 2, 1) := by decide +kernel
theorem dX6_perform_23 : decode cX6_perform 23 = .ok (.invokestatic 62, 3) := by decide +kernel
theorem dX6_perform_26 : decode cX6_perform 26 = .ok (.istore 4, 2) := by decide +kernel
theorem dX6_perform_28 : decode cX6_perform 28 = .ok (.getstatic 66, 3) := by decide +kernel
theorem dX6_perform_31 : decode cX6_perform 31 = .ok (.aload_n 0, 1) := by decide +kernel
theorem dX6_perform_32 : decode cX6_perform 32 = .ok (.getfield 24, 3) := by decide +kernel
theorem dX6_perform_35 : decode cX6_perform 35 = .ok (.invokevirtual 71, 3) := by decide +kernel
theorem dX6_perform_38 : decode cX6_perform 38 = .ok (.iaload, 1) := by decide +kernel
theorem dX6_perform_39 : decode cX6_perform 39 = .ok (.tableswitch 121 1 9 #[49, 58, 64, 73, 80, 89, 99, 109, 115], 49) := by decide +kernel
theorem dX6_perform_88 : decode cX6_perform 88 = .ok (.aload_n 1, 1) := by decide +kernel
theorem dX6_perform_89 : decode cX6_perform 89 = .ok (.iload_n 2, 1) := by decide +kernel
theorem dX6_perform_90 : decode cX6_perform 90 = .ok (.iload_n 3, 1) := by decide +kernel
theorem dX6_perform_91 : decode cX6_perform 91 = .ok (.iload 4, 2) := by decide +kernel
theorem dX6_perform_93 : decode cX6_perform 93 = .ok (.invokevirtual 74, 3) := by decide +kernel
theorem dX6_perform_96 : decode cX6_perform 96 = .ok (.ireturn, 1) := by decide +kernel
theorem dX6_perform_97 : decode cX6_perform 97 = .ok (.aload_n 1, 1) := by decide +kernel
theorem dX6_perform_98 : decode cX6_perform 98 = .ok (.iload_n 2, 1) := by decide +kernel
theorem dX6_perform_99 : decode cX6_perform 99 = .ok (.invokevirtual 80, 3) := by decide +kernel
theorem dX6_perform_102 : decode cX6_perform 102 = .ok (.ireturn, 1) := by decide +kernel
theorem dX6_perform_103 : decode cX6_perform 103 = .ok (.aload_n 1, 1) := by decide +kernel
theorem dX6_perform_104 : decode cX6_perform 104 = .ok (.iload_n 2, 1) := by decide +kernel
theorem dX6_perform_105 : decode cX6_perform 105 = .ok (.iload_n 3, 1) := by decide +kernel
theorem dX6_perform_106 : decode cX6_perform 106 = .ok (.iload 4, 2) := by decide +kernel
theorem dX6_perform_108 : decode cX6_perform 108 = .ok (.invokevirtual 84, 3) := by decide +kernel
theorem dX6_perform_111 : decode cX6_perform 111 = .ok (.ireturn, 1) := by decide +kernel
theorem dX6_perform_112 : decode cX6_perform 112 = .ok (.aload_n 1, 1) := by decide +kernel
theorem dX6_perform_113 : decode cX6_perform 113 = .ok (.iload_n 2, 1) := by decide +kernel
theorem dX6_perform_114 : decode cX6_perform 114 = .ok (.iload_n 3, 1) := by decide +kernel
theorem dX6_perform_115 : decode cX6_perform 115 = .ok (.invokevirtual 87, 3) := by decide +kernel
theorem dX6_perform_118 : decode cX6_perform 118 = .ok (.ireturn, 1) := by decide +kernel
theorem dX6_perform_119 : decode cX6_perform 119 = .ok (.aload_n 1, 1) := by decide +kernel
theorem dX6_perform_120 : decode cX6_perform 120 = .ok (.iload_n 2, 1) := by decide +kernel
theorem dX6_perform_121 : decode cX6_perform 121 = .ok (.iload_n 3, 1) := by decide +kernel
theorem dX6_perform_122 : decode cX6_perform 122 = .ok (.iload 4, 2) := by decide +kernel
theorem dX6_perform_124 : decode cX6_perform 124 = .ok (.invokevirtual 91, 3) := by decide +kernel
theorem dX6_perform_127 : decode cX6_perform 127 = .ok (.ireturn, 1) := by decide +kernel
theorem dX6_perform_128 : decode cX6_perform 128 = .ok (.aload_n 1, 1) := by decide +kernel
theorem dX6_perform_129 : decode cX6_perform 129 = .ok (.getfield 94, 3) := by decide +kernel
theorem dX6_perform_132 : decode cX6_perform 132 = .ok (.iload_n 2, 1) := by decide +kernel
theorem dX6_perform_133 : decode cX6_perform 133 = .ok (.iload_n 3, 1) := by decide +kernel
theorem dX6_perform_134 : decode cX6_perform 134 = .ok (.invokevirtual 98, 3) := by decide +kernel
theorem dX6_perform_137 : decode cX6_perform 137 = .ok (.ireturn, 1) := by decide +kernel
theorem dX6_perform_138 : decode cX6_perform 138 = .ok (.aload_n 1, 1) := by decide +kernel
theorem dX6_perform_139 : decode cX6_perform 139 = .ok (.getfield 94, 3) := by decide +kernel
theorem dX6_perform_142 : decode cX6_perform 142 = .ok (.iload_n 2, 1) := by decide +kernel
theorem dX6_perform_143 : decode cX6_perform 143 = .ok (.iload_n 3, 1) := by decide +kernel
theorem dX6_perform_144 : decode cX6_perform 144 = .ok (.invokevirtual 103, 3) := by decide +kernel
theorem dX6_perform_147 : decode cX6_perform 147 = .ok (.ireturn, 1) := by decide +kernel
theorem dX6_perform_148 : decode cX6_perform 148 = .ok (.aload_n 1, 1) := by decide +kernel
theorem dX6_perform_149 : decode cX6_perform 149 = .ok (.iload_n 2, 1) := by decide +kernel
theorem dX6_perform_150 : decode cX6_perform 150 = .ok (.invokevirtual 106, 3) := by decide +kernel
theorem dX6_perform_153 : decode cX6_perform 153 = .ok (.ireturn, 1) := by decide +kernel
theorem dX6_perform_154 : decode cX6_perform 154 = .ok (.aload_n 1, 1) := by decide +kernel
theorem dX6_perform_155 : decode cX6_perform 155 = .ok (.iload_n 2, 1) := by decide +kernel
theorem dX6_perform_156 : decode cX6_perform 156 = .ok (.invokevirtual 109, 3) := by decide +kernel
theorem dX6_perform_159 : decode cX6_perform 159 = .ok (.ireturn, 1) := by decide +kernel
theorem dX6_perform_160 : decode cX6_perform 160 = .ok (.aload_n 1, 1) := by decide +kernel
theorem dX6_perform_161 : decode cX6_perform 161 = .ok (.iconst 1, 1) := by decide +kernel
theorem dX6_perform_162 : decode cX6_perform 162 = .ok (.invokevirtual 109, 3) := by decide +kernel
theorem dX6_perform_165 : decode cX6_perform 165 = .ok (.ireturn, 1) := by decide +kernel
theorem dX6_readCommand_0 : decode cX6_readCommand 0 = .ok (.aload_n 0, 1) := by decide +kernel
theorem dX6_readCommand_1 : decode cX6_readCommand 1 = .ok (.getfield 43, 3) := by decide +kernel
theorem dX6_readCommand_4 : decode cX6_readCommand 4 = .ok (.istore_n 1, 1) := by decide +kernel
theorem dX6_readCommand_5 : decode cX6_readCommand 5 = .ok (.getstatic 112, 3) := by decide +kernel
theorem dX6_readCommand_8 : decode cX6_readCommand 8 = .ok (.astore_n 2, 1) := by decide +kernel
theorem dX6_readCommand_9 : decode cX6_readCommand 9 = .ok (.aload_n 2, 1) := by decide +kernel
theorem dX6_readCommand_10 : decode cX6_readCommand 10 = .ok (.arraylength, 1) := by decide +kernel
theorem dX6_readCommand_11 : decode cX6_readCommand 11 = .ok (.istore_n 3, 1) := by decide +kernel
theorem dX6_readCommand_12 : decode cX6_readCommand 12 = .ok (.iconst 0, 1) := by decide +kernel
theorem dX6_readCommand_13 : decode cX6_readCommand 13 = .ok (.istore 4, 2) := by decide +kernel
theorem dX6_readCommand_15 : decode cX6_readCommand 15 = .ok (.iload 4, 2) := by decide +kernel
theorem dX6_readCommand_17 : decode cX6_readCommand 17 = .ok (.iload_n 3, 1) := by decide +kernel
theorem dX6_readCommand_18 : decode cX6_readCommand 18 = .ok (.if_icmp .ge 40, 3) := by decide +kernel
theorem dX6_readCommand_21 : decode cX6_readCommand 21 = .ok (.aload_n 2, 1) := by decide +kernel
theorem dX6_readCommand_22 : decode cX6_readCommand 22 = .ok (.iload 4, 2) := by decide +kernel
theorem dX6_readCommand_24 : decode cX6_readCommand 24 = .ok (.aaload, 1) := by decide +kernel
theorem dX6_readCommand_25 : decode cX6_readCommand 25 = .ok (.astore 5, 2) := by decide +kernel
theorem dX6_readCommand_27 : decode cX6_readCommand 27 = .ok (.aload_n 0, 1) := by decide +kernel
theorem dX6_readCommand_28 : decode cX6_readCommand 28 = .ok (.iload_n 1, 1) := by decide +kernel
theorem dX6_readCommand_29 : decode cX6_readCommand 29 = .ok (.putfield 43, 3) := by decide +kernel
theorem dX6_readCommand_32 : decode cX6_readCommand 32 = .ok (.aload_n 0, 1) := by decide +kernel
theorem dX6_readCommand_33 : decode cX6_readCommand 33 = .ok (.aload 5, 2) := by decide +kernel
theorem dX6_readCommand_35 : decode cX6_readCommand 35 = .ok (.getfield 116, 3) := by decide +kernel
theorem dX6_readCommand_38 : decode cX6_readCommand 38 = .ok (.invokevirtual 120, 3) := by decide +kernel
theorem dX6_readCommand_41 : decode cX6_readCommand 41 = .ok (.ifCond .eq 11, 3) := by decide +kernel
theorem dX6_readCommand_44 : decode cX6_readCommand 44 = .ok (.aload_n 0, 1) := by decide +kernel
theorem dX6_readCommand_45 : decode cX6_readCommand 45 = .ok (.aload 5, 2) := by decide +kernel
theorem dX6_readCommand_47 : decode cX6_readCommand 47 = .ok (.putfield 24, 3) := by decide +kernel
theorem dX6_readCommand_50 : decode cX6_readCommand 50 = .ok (.iconst 1, 1) := by decide +kernel
theorem dX6_readCommand_51 : decode cX6_readCommand 51 = .ok (.ireturn, 1) := by decide +kernel
theorem dX6_readCommand_52 : decode cX6_readCommand 52 = .ok (.iinc 4 1, 3) := by decide +kernel
theorem dX6_readCommand_55 : decode cX6_readCommand 55 = .ok (.goto (-40), 3) := by decide +kernel
theorem dX6_readCommand_58 : decode cX6_readCommand 58 = .ok (.iconst 0, 1) := by decide +kernel
theorem dX6_readCommand_59 : decode cX6_readCommand 59 = .ok (.ireturn, 1) := by decide +kernel
theorem dX6_readForm_0 : decode cX6_readForm 0 = .ok (.aload_n 0, 1) := by decide +kernel
theorem dX6_readForm_1 : decode cX6_readForm 1 = .ok (.iconst 0, 1) := by decide +kernel
theorem dX6_readForm_2 : decode cX6_readForm 2 = .ok (.putfield 124, 3) := by decide +kernel
theorem dX6_readForm_5 : decode cX6_readForm 5 = .ok (.iconst 0, 1) := by decide +kernel
theorem dX6_readForm_6 : decode cX6_readForm 6 = .ok (.istore_n 2, 1) := by decide +kernel
theorem dX6_readForm_7 : decode cX6_readForm 7 = .ok (.iload_n 2, 1) := by decide +kernel
theorem dX6_readForm_8 : decode cX6_readForm 8 = .ok (.aload_n 1, 1) := by decide +kernel
theorem dX6_readForm_9 : decode cX6_readForm 9 = .ok (.invokevirtual 127, 3) := by decide +kernel
theorem dX6_readForm_12 : decode cX6_readForm 12 = .ok (.if_icmp .ge 23, 3) := by decide +kernel
theorem dX6_readForm_15 : decode cX6_readForm 15 = .ok (.aload_n 0, 1) := by decide +kernel
theorem dX6_readForm_16 : decode cX6_readForm 16 = .ok (.aload_n 1, 1) := by decide +kernel
theorem dX6_readForm_17 : decode cX6_readForm 17 = .ok (.iload_n 2, 1) := by decide +kernel
theorem dX6_readForm_18 : decode cX6_readForm 18 = .ok (.invokevirtual 130, 3) := by decide +kernel
theorem dX6_readForm_21 : decode cX6_readForm 21 = .ok (.invokevirtual 134, 3) := by decide +kernel
theorem dX6_readForm_24 : decode cX6_readForm 24 = .ok (.ifCond .ne 5, 3) := by decide +kernel
theorem dX6_readForm_27 : decode cX6_readForm 27 = .ok (.iconst 0, 1) := by decide +kernel
theorem dX6_readForm_28 : decode cX6_readForm 28 = .ok (.ireturn, 1) := by decide +kernel
theorem dX6_readForm_29 : decode cX6_readForm 29 = .ok (.iinc 2 1, 3) := by decide +kernel
theorem dX6_readForm_32 : decode cX6_readForm 32 = .ok (.goto (-25), 3) := by decide +kernel
theorem dX6_readForm_35 : decode cX6_readForm 35 = .ok (.iconst 1, 1) := by decide +kernel
theorem dX6_readForm_36 : decode cX6_readForm 36 = .ok (.ireturn, 1) := by decide +kernel
theorem dX6_readSign_0 : decode cX6_readSign 0 = .ok (.iload_n 1, 1) := by decide +kernel
theorem dX6_readSign_1 : decode cX6_readSign 1 = .ok (.bipush 35, 2) := by decide +kernel
theorem dX6_readSign_3 : decode cX6_readSign 3 = .ok (.if_icmp .ne 9, 3) := by decide +kernel
theorem dX6_readSign_6 : decode cX6_readSign 6 = .ok (.aload_n 0, 1) := by decide +kernel
theorem dX6_readSign_7 : decode cX6_readSign 7 = .ok (.iconst 1, 1) := by decide +kernel
theorem dX6_readSign_8 : decode cX6_readSign 8 = .ok (.invokevirtual 137, 3) := by decide +kernel
theorem dX6_readSign_11 : decode cX6_readSign 11 = .ok (.ireturn, 1) := by decide +kernel
theorem dX6_readSign_12 : decode cX6_readSign 12 = .ok (.iload_n 1, 1) := by decide +kernel
theorem dX6_readSign_13 : decode cX6_readSign 13 = .ok (.bipush 42, 2) := by decide +kernel
theorem dX6_readSign_15 : decode cX6_readSign 15 = .ok (.if_icmp .ne 11, 3) := by decide +kernel
theorem dX6_readSign_18 : decode cX6_readSign 18 = .ok (.aload_n 0, 1) := by decide +kernel
theorem dX6_readSign_19 : decode cX6_readSign 19 = .ok (.iconst 3, 1) := by decide +kernel
theorem dX6_readSign_20 : decode cX6_readSign 20 = .ok (.invokevirtual 137, 3) := by decide +kernel
theorem dX6_readSign_23 : decode cX6_readSign 23 = .ok (.goto 8, 3) := by decide +kernel
theorem dX6_readSign_26 : decode cX6_readSign 26 = .ok (.aload_n 0, 1) := by decide +kernel
theorem dX6_readSign_27 : decode cX6_readSign 27 = .ok (.iload_n 1, 1) := by decide +kernel
theorem dX6_readSign_28 : decode cX6_readSign 28 = .ok (.invokevirtual 54, 3) := by decide +kernel
theorem dX6_readSign_31 : decode cX6_readSign 31 = .ok (.ireturn, 1) := by decide +kernel
theorem dX6_readNumber_0 : decode cX6_readNumber 0 = .ok (.iconst 0, 1) := by decide +kernel
theorem dX6_readNumber_1 : decode cX6_readNumber 1 = .ok (.istore_n 2, 1) := by decide +kernel
theorem dX6_readNumber_2 : decode cX6_readNumber 2 = .ok (.iconst 0, 1) := by decide +kernel
theorem dX6_readNumber_3 : decode cX6_readNumber 3 = .ok (.istore_n 3, 1) := by decide +kernel
theorem dX6_readNumber_4 : decode cX6_readNumber 4 = .ok (.iload_n 3, 1) := by decide +kernel
theorem dX6_readNumber_5 : decode cX6_readNumber 5 = .ok (.iload_n 1, 1) := by decide +kernel
theorem dX6_readNumber_6 : decode cX6_readNumber 6 = .ok (.if_icmp .ge 36, 3) := by decide +kernel
theorem dX6_readNumber_9 : decode cX6_readNumber 9 = .ok (.aload_n 0, 1) := by decide +kernel
theorem dX6_readNumber_10 : decode cX6_readNumber 10 = .ok (.invokevirtual 141, 3) := by decide +kernel
theorem dX6_readNumber_13 : decode cX6_readNumber 13 = .ok (.invokestatic 145, 3) := by decide +kernel
theorem dX6_readNumber_16 : decode cX6_readNumber 16 = .ok (.ifCond .eq 26, 3) := by decide +kernel
theorem dX6_readNumber_19 : decode cX6_readNumber 19 = .ok (.bipush 10, 2) := by decide +kernel
theorem dX6_readNumber_21 : decode cX6_readNumber 21 = .ok (.iload_n 2, 1) := by decide +kernel
theorem dX6_readNumber_22 : decode cX6_readNumber 22 = .ok (.imul, 1) := by decide +kernel
theorem dX6_readNumber_23 : decode cX6_readNumber 23 = .ok (.aload_n 0, 1) := by decide +kernel
theorem dX6_readNumber_24 : decode cX6_readNumber 24 = .ok (.invokevirtual 141, 3) := by decide +kernel
theorem dX6_readNumber_27 : decode cX6_readNumber 27 = .ok (.bipush 48, 2) := by decide +kernel
theorem dX6_readNumber_29 : decode cX6_readNumber 29 = .ok (.isub, 1) := by decide +kernel
theorem dX6_readNumber_30 : decode cX6_readNumber 30 = .ok (.iadd, 1) := by decide +kernel
theorem dX6_readNumber_31 : decode cX6_readNumber 31 = .ok (.istore_n 2, 1) := by decide +kernel
theorem dX6_readNumber_32 : decode cX6_readNumber 32 = .ok (.iinc 3 1, 3) := by decide +kernel
theorem dX6_readNumber_35 : decode cX6_readNumber 35 = .ok (.aload_n 0, 1) := by decide +kernel
theorem dX6_readNumber_36 : decode cX6_readNumber 36 = .ok (.invokevirtual 148, 3) := by decide +kernel
theorem dX6_readNumber_39 : decode cX6_readNumber 39 = .ok (.goto (-35), 3) := by decide +kernel
theorem dX6_readNumber_42 : decode cX6_readNumber 42 = .ok (.aload_n 0, 1) := by decide +kernel
theorem dX6_readNumber_43 : decode cX6_readNumber 43 = .ok (.getfield 27, 3) := by decide +kernel
theorem dX6_readNumber_46 : decode cX6_readNumber 46 = .ok (.aload_n 0, 1) := by decide +kernel
theorem dX6_readNumber_47 : decode cX6_readNumber 47 = .ok (.getfield 124, 3) := by decide +kernel
theorem dX6_readNumber_50 : decode cX6_readNumber 50 = .ok (.iload_n 2, 1) := by decide +kernel
theorem dX6_readNumber_51 : decode cX6_readNumber 51 = .ok (.invokestatic 151, 3) := by decide +kernel
theorem dX6_readNumber_54 : decode cX6_readNumber 54 = .ok (.aload_n 0, 1) := by decide +kernel
theorem dX6_readNumber_55 : decode cX6_readNumber 55 = .ok (.dup, 1) := by decide +kernel
theorem dX6_readNumber_56 : decode cX6_readNumber 56 = .ok (.getfield 124, 3) := by decide +kernel
theorem dX6_readNumber_59 : decode cX6_readNumber 59 = .ok (.iconst 1, 1) := by decide +kernel
theorem dX6_readNumber_60 : decode cX6_readNumber 60 = .ok (.iadd, 1) := by decide +kernel
theorem dX6_readNumber_61 : decode cX6_readNumber 61 = .ok (.putfield 124, 3) := by decide +kernel
theorem dX6_readNumber_64 : decode cX6_readNumber 64 = .ok (.iload_n 3, 1) := by decide +kernel
theorem dX6_readNumber_65 : decode cX6_readNumber 65 = .ok (.ifCond .le 7, 3) := by decide +kernel
theorem dX6_readNumber_68 : decode cX6_readNumber 68 = .ok (.iconst 1, 1) := by decide +kernel
theorem dX6_readNumber_69 : decode cX6_readNumber 69 = .ok (.goto 4, 3) := by decide +kernel
theorem dX6_readNumber_72 : decode cX6_readNumber 72 = .ok (.iconst 0, 1) := by decide +kernel
theorem dX6_readNumber_73 : decode cX6_readNumber 73 = .ok (.ireturn, 1) := by decide +kernel
theorem dX6_readCharacter_0 : decode cX6_readCharacter 0 = .ok (.aload_n 0, 1) := by decide +kernel
theorem dX6_readCharacter_1 : decode cX6_readCharacter 1 = .ok (.invokevirtual 141, 3) := by decide +kernel
theorem dX6_readCharacter_4 : decode cX6_readCharacter 4 = .ok (.iload_n 1, 1) := by decide +kernel
theorem dX6_readCharacter_5 : decode cX6_readCharacter 5 = .ok (.if_icmp .ne 7, 3) := by decide +kernel
theorem dX6_readCharacter_8 : decode cX6_readCharacter 8 = .ok (.iconst 1, 1) := by decide +kernel
theorem dX6_readCharacter_9 : decode cX6_readCharacter 9 = .ok (.goto 4, 3) := by decide +kernel
theorem dX6_readCharacter_12 : decode cX6_readCharacter 12 = .ok (.iconst 0, 1) := by decide +kernel
theorem dX6_readCharacter_13 : decode cX6_readCharacter 13 = .ok (.istore_n 2, 1) := by decide +kernel
theorem dX6_readCharacter_14 : decode cX6_readCharacter 14 = .ok (.iload_n 2, 1) := by decide +kernel
theorem dX6_readCharacter_15 : decode cX6_readCharacter 15 = .ok (.ifCond .eq 7, 3) := by decide +kernel
theorem dX6_readCharacter_18 : decode cX6_readCharacter 18 = .ok (.aload_n 0, 1) := by decide +kernel
theorem dX6_readCharacter_19 : decode cX6_readCharacter 19 = .ok (.invokevirtual 148, 3) := by decide +kernel
theorem dX6_readCharacter_22 : decode cX6_readCharacter 22 = .ok (.iload_n 2, 1) := by decide +kernel
theorem dX6_readCharacter_23 : decode cX6_readCharacter 23 = .ok (.ireturn, 1) := by decide +kernel
theorem dX6_next_0 : decode cX6_next 0 = .ok (.aload_n 0, 1) := by decide +kernel
theorem dX6_next_1 : decode cX6_next 1 = .ok (.getfield 43, 3) := by decide +kernel
theorem dX6_next_4 : decode cX6_next 4 = .ok (.ifCond .lt 31, 3) := by decide +kernel
theorem dX6_next_7 : decode cX6_next 7 = .ok (.aload_n 0, 1) := by decide +kernel
theorem dX6_next_8 : decode cX6_next 8 = .ok (.getfield 43, 3) := by decide +kernel
theorem dX6_next_11 : decode cX6_next 11 = .ok (.aload_n 0, 1) := by decide +kernel
theorem dX6_next_12 : decode cX6_next 12 = .ok (.getfield 12, 3) := by decide +kernel
theorem dX6_next_15 : decode cX6_next 15 = .ok (.invokevirtual 31, 3) := by decide +kernel
theorem dX6_next_18 : decode cX6_next 18 = .ok (.if_icmp .ge 17, 3) := by decide +kernel
theorem dX6_next_21 : decode cX6_next 21 = .ok (.aload_n 0, 1) := by decide +kernel
theorem dX6_next_22 : decode cX6_next 22 = .ok (.getfield 12, 3) := by decide +kernel
theorem dX6_next_25 : decode cX6_next 25 = .ok (.aload_n 0, 1) := by decide +kernel
theorem dX6_next_26 : decode cX6_next 26 = .ok (.getfield 43, 3) := by decide +kernel
theorem dX6_next_29 : decode cX6_next 29 = .ok (.invokevirtual 155, 3) := by decide +kernel
theorem dX6_next_32 : decode cX6_next 32 = .ok (.goto 4, 3) := by decide +kernel
theorem dX6_next_35 : decode cX6_next 35 = .ok (.iconst 0, 1) := by decide +kernel
theorem dX6_next_36 : decode cX6_next 36 = .ok (.ireturn, 1) := by decide +kernel
theorem dX6_goOn_0 : decode cX6_goOn 0 = .ok (.aload_n 0, 1) := by decide +kernel
theorem dX6_goOn_1 : decode cX6_goOn 1 = .ok (.dup, 1) := by decide +kernel
theorem dX6_goOn_2 : decode cX6_goOn 2 = .ok (.getfield 43, 3) := by decide +kernel
theorem dX6_goOn_5 : decode cX6_goOn 5 = .ok (.iconst 1, 1) := by decide +kernel
theorem dX6_goOn_6 : decode cX6_goOn 6 = .ok (.iadd, 1) := by decide +kernel
theorem dX6_goOn_7 : decode cX6_goOn 7 = .ok (.putfield 43, 3) := by decide +kernel
theorem dX6_goOn_10 : decode cX6_goOn 10 = .ok (.aload_n 0, 1) := by decide +kernel
theorem dX6_goOn_11 : decode cX6_goOn 11 = .ok (.aload_n 0, 1) := by decide +kernel
theorem dX6_goOn_12 : decode cX6_goOn 12 = .ok (.getfield 47, 3) := by decide +kernel
theorem dX6_goOn_15 : decode cX6_goOn 15 = .ok (.aload_n 0, 1) := by decide +kernel
theorem dX6_goOn_16 : decode cX6_goOn 16 = .ok (.getfield 43, 3) := by decide +kernel
theorem dX6_goOn_19 : decode cX6_goOn 19 = .ok (.invokestatic 156, 3) := by decide +kernel
theorem dX6_goOn_22 : decode cX6_goOn 22 = .ok (.putfield 47, 3) := by decide +kernel
theorem dX6_goOn_25 : decode cX6_goOn 25 = .ok (.return_, 1) := by decide +kernel
theorem dX6_isDigit_0 : decode cX6_isDigit 0 = .ok (.iload_n 0, 1) := by decide +kernel
theorem dX6_isDigit_1 : decode cX6_isDigit 1 = .ok (.bipush 48, 2) := by decide +kernel
theorem dX6_isDigit_3 : decode cX6_isDigit 3 = .ok (.if_icmp .lt 13, 3) := by decide +kernel
theorem dX6_isDigit_6 : decode cX6_isDigit 6 = .ok (.iload_n 0, 1) := by decide +kernel
theorem dX6_isDigit_7 : decode cX6_isDigit 7 = .ok (.bipush 57, 2) := by decide +kernel
theorem dX6_isDigit_9 : decode cX6_isDigit 9 = .ok (.if_icmp .gt 7, 3) := by decide +kernel
theorem dX6_isDigit_12 : decode cX6_isDigit 12 = .ok (.iconst 1, 1) := by decide +kernel
theorem dX6_isDigit_13 : decode cX6_isDigit 13 = .ok (.goto 4, 3) := by decide +kernel
theorem dX6_isDigit_16 : decode cX6_isDigit 16 = .ok (.iconst 0, 1) := by decide +kernel
theorem dX6_isDigit_17 : decode cX6_isDigit 17 = .ok (.ireturn, 1) := by decide +kernel
theorem dX7_init_0 : decode cX7_init 0 = .ok (.aload_n 0, 1) := by decide +kernel
theorem dX7_init_1 : decode cX7_init 1 = .ok (.invokespecial 3, 3) := by decide +kernel
theorem dX7_init_4 : decode cX7_init 4 = .ok (.aload_n 0, 1) := by decide +kernel
theorem dX7_init_5 : decode cX7_init 5 = .ok (.bipush 10, 2) := by decide +kernel
theorem dX7_init_7 : decode cX7_init 7 = .ok (.anewarray 11, 3) := by decide +kernel
theorem dX7_init_10 : decode cX7_init 10 = .ok (.putfield 13, 3) := by decide +kernel
theorem dX7_init_13 : decode cX7_init 13 = .ok (.iconst 0, 1) := by decide +kernel
theorem dX7_init_14 : decode cX7_init 14 = .ok (.istore_n 1, 1) := by decide +kernel
theorem dX7_init_15 : decode cX7_init 15 = .ok (.iload_n 1, 1) := by decide +kernel
theorem dX7_init_16 : decode cX7_init 16 = .ok (.aload_n 0, 1) := by decide +kernel
theorem dX7_init_17 : decode cX7_init 17 = .ok (.getfield 13, 3) := by decide +kernel
theorem dX7_init_20 : decode cX7_init 20 = .ok (.arraylength, 1) := by decide +kernel
theorem dX7_init_21 : decode cX7_init 21 = .ok (.if_icmp .ge 22, 3) := by decide +kernel
theorem dX7_init_24 : decode cX7_init 24 = .ok (.aload_n 0, 1) := by decide +kernel
theorem dX7_init_25 : decode cX7_init 25 = .ok (.getfield 13, 3) := by decide +kernel
theorem dX7_init_28 : decode cX7_init 28 = .ok (.iload_n 1, 1) := by decide +kernel
theorem dX7_init_29 : decode cX7_init 29 = .ok (.new 11, 3) := by decide +kernel
theorem dX7_init_32 : decode cX7_init 32 = .ok (.dup, 1) := by decide +kernel
theorem dX7_init_33 : decode cX7_init 33 = .ok (.invokespecial 17, 3) := by decide +kernel
theorem dX7_init_36 : decode cX7_init 36 = .ok (.aastore, 1) := by decide +kernel
theorem dX7_init_37 : decode cX7_init 37 = .ok (.iinc 1 1, 3) := by decide +kernel
theorem dX7_init_40 : decode cX7_init 40 = .ok (.goto (-25), 3) := by decide +kernel
theorem dX7_init_43 : decode cX7_init 43 = .ok (.return_, 1) := by decide +kernel
theorem dX7_present_0 : decode cX7_present 0 = .ok (.aload_n 0, 1) := by decide +kernel
theorem dX7_present_1 : decode cX7_present 1 = .ok (.aload_n 0, 1) := by decide +kernel
theorem dX7_present_2 : decode cX7_present 2 = .ok (.getfield 18, 3) := by decide +kernel
theorem dX7_present_5 : decode cX7_present 5 = .ok (.invokevirtual 22, 3) := by decide +kernel
theorem dX7_present_8 : decode cX7_present 8 = .ok (.areturn, 1) := by decide +kernel
theorem dX7_draft_0 : decode cX7_draft 0 = .ok (.aload_n 0, 1) := by decide +kernel
theorem dX7_draft_1 : decode cX7_draft 1 = .ok (.aload_n 0, 1) := by decide +kernel
theorem dX7_draft_2 : decode cX7_draft 2 = .ok (.getfield 18, 3) := by decide +kernel
theorem dX7_draft_5 : decode cX7_draft 5 = .ok (.iconst 1, 1) := by decide +kernel
theorem dX7_draft_6 : decode cX7_draft 6 = .ok (.iadd, 1) := by decide +kernel
theorem dX7_draft_7 : decode cX7_draft 7 = .ok (.invokevirtual 22, 3) := by decide +kernel
theorem dX7_draft_10 : decode cX7_draft 10 = .ok (.astore_n 1, 1) := by decide +kernel
theorem dX7_draft_11 : decode cX7_draft 11 = .ok (.aload_n 1, 1) := by decide +kernel
theorem dX7_draft_12 : decode cX7_draft 12 = .ok (.aload_n 0, 1) := by decide +kernel
theorem dX7_draft_13 : decode cX7_draft 13 = .ok (.invokevirtual 26, 3) := by decide +kernel
theorem dX7_draft_16 : decode cX7_draft 16 = .ok (.invokevirtual 30, 3) := by decide +kernel
theorem dX7_draft_19 : decode cX7_draft 19 = .ok (.aload_n 1, 1) := by decide +kernel
theorem dX7_draft_20 : decode cX7_draft 20 = .ok (.areturn, 1) := by decide +kernel
theorem dX7_keepDraft_0 : decode cX7_keepDraft 0 = .ok (.aload_n 0, 1) := by decide +kernel
theorem dX7_keepDraft_1 : decode cX7_keepDraft 1 = .ok (.aload_n 0, 1) := by decide +kernel
theorem dX7_keepDraft_2 : decode cX7_keepDraft 2 = .ok (.getfield 18, 3) := by decide +kernel
theorem dX7_keepDraft_5 : decode cX7_keepDraft 5 = .ok (.iconst 1, 1) := by decide +kernel
theorem dX7_keepDraft_6 : decode cX7_keepDraft 6 = .ok (.iadd, 1) := by decide +kernel
theorem dX7_keepDraft_7 : decode cX7_keepDraft 7 = .ok (.bipush 10, 2) := by decide +kernel
theorem dX7_keepDraft_9 : decode cX7_keepDraft 9 = .ok (.invokestatic 34, 3) := by decide +kernel
theorem dX7_keepDraft_12 : decode cX7_keepDraft 12 = .ok (.putfield 18, 3) := by decide +kernel
theorem dX7_keepDraft_15 : decode cX7_keepDraft 15 = .ok (.aload_n 0, 1) := by decide +kernel
theorem dX7_keepDraft_16 : decode cX7_keepDraft 16 = .ok (.aload_n 0, 1) := by decide +kernel
theorem dX7_keepDraft_17 : decode cX7_keepDraft 17 = .ok (.getfield 40, 3) := by decide +kernel
theorem dX7_keepDraft_20 : decode cX7_keepDraft 20 = .ok (.iconst 1, 1) := by decide +kernel
theorem dX7_keepDraft_21 : decode cX7_keepDraft 21 = .ok (.iadd, 1) := by decide +kernel
theorem dX7_keepDraft_22 : decode cX7_keepDraft 22 = .ok (.bipush 8, 2) := by decide +kernel
theorem dX7_keepDraft_24 : decode cX7_keepDraft 24 = .ok (.invokestatic 43, 3) := by decide +kernel
theorem dX7_keepDraft_27 : decode cX7_keepDraft 27 = .ok (.putfield 40, 3) := by decide +kernel
theorem dX7_keepDraft_30 : decode cX7_keepDraft 30 = .ok (.return_, 1) := by decide +kernel
theorem dX7_goBack_0 : decode cX7_goBack 0 = .ok (.aload_n 0, 1) := by decide +kernel
theorem dX7_goBack_1 : decode cX7_goBack 1 = .ok (.getfield 40, 3) := by decide +kernel
theorem dX7_goBack_4 : decode cX7_goBack 4 = .ok (.ifCond .ne 5, 3) := by decide +kernel
theorem dX7_goBack_7 : decode cX7_goBack 7 = .ok (.iconst (-1), 1) := by decide +kernel
theorem dX7_goBack_8 : decode cX7_goBack 8 = .ok (.ireturn, 1) := by decide +kernel
theorem dX7_goBack_9 : decode cX7_goBack 9 = .ok (.aload_n 0, 1) := by decide +kernel
theorem dX7_goBack_10 : decode cX7_goBack 10 = .ok (.aload_n 0, 1) := by decide +kernel
theorem dX7_goBack_11 : decode cX7_goBack 11 = .ok (.getfield 18, 3) := by decide +kernel
theorem dX7_goBack_14 : decode cX7_goBack 14 = .ok (.iconst 1, 1) := by decide +kernel
theorem dX7_goBack_15 : decode cX7_goBack 15 = .ok (.isub, 1) := by decide +kernel
theorem dX7_goBack_16 : decode cX7_goBack 16 = .ok (.bipush 10, 2) := by decide +kernel
theorem dX7_goBack_18 : decode cX7_goBack 18 = .ok (.invokestatic 34, 3) := by decide +kernel
theorem dX7_goBack_21 : decode cX7_goBack 21 = .ok (.putfield 18, 3) := by decide +kernel
theorem dX7_goBack_24 : decode cX7_goBack 24 = .ok (.aload_n 0, 1) := by decide +kernel
theorem dX7_goBack_25 : decode cX7_goBack 25 = .ok (.dup, 1) := by decide +kernel
theorem dX7_goBack_26 : decode cX7_goBack 26 = .ok (.getfield 40, 3) := by decide +kernel
theorem dX7_goBack_29 : decode cX7_goBack 29 = .ok (.iconst 1, 1) := by decide +kernel
theorem dX7_goBack_30 : decode cX7_goBack 30 = .ok (.isub, 1) := by decide +kernel
theorem dX7_goBack_31 : decode cX7_goBack 31 = .ok (.putfield 40, 3) := by decide +kernel
theorem dX7_goBack_34 : decode cX7_goBack 34 = .ok (.aload_n 0, 1) := by decide +kernel
theorem dX7_goBack_35 : decode cX7_goBack 35 = .ok (.getfield 40, 3) := by decide +kernel
theorem dX7_goBack_38 : decode cX7_goBack 38 = .ok (.ireturn, 1) := by decide +kernel
theorem dX7_startAnewFrom_0 : decode cX7_startAnewFrom 0 = .ok (.aload_n 0, 1) := by decide +kernel
theorem dX7_startAnewFrom_1 : decode cX7_startAnewFrom 1 = .ok (.invokevirtual 26, 3) := by decide +kernel
theorem dX7_startAnewFrom_4 : decode cX7_startAnewFrom 4 = .ok (.aload_n 1, 1) := by decide +kernel
theorem dX7_startAnewFrom_5 : decode cX7_startAnewFrom 5 = .ok (.invokevirtual 30, 3) := by decide +kernel
theorem dX7_startAnewFrom_8 : decode cX7_startAnewFrom 8 = .ok (.aload_n 0, 1) := by decide +kernel
theorem dX7_startAnewFrom_9 : decode cX7_startAnewFrom 9 = .ok (.iconst 0, 1) := by decide +kernel
theorem dX7_startAnewFrom_10 : decode cX7_startAnewFrom 10 = .ok (.putfield 40, 3) := by decide +kernel
theorem dX7_startAnewFrom_13 : decode cX7_startAnewFrom 13 = .ok (.return_, 1) := by decide +kernel
theorem dX7_stateAt_0 : decode cX7_stateAt 0 = .ok (.aload_n 0, 1) := by decide +kernel
theorem dX7_stateAt_1 : decode cX7_stateAt 1 = .ok (.getfield 13, 3) := by decide +kernel
theorem dX7_stateAt_4 : decode cX7_stateAt 4 = .ok (.iload_n 1, 1) := by decide +kernel
theorem dX7_stateAt_5 : decode cX7_stateAt 5 = .ok (.bipush 10, 2) := by decide +kernel
theorem dX7_stateAt_7 : decode cX7_stateAt 7 = .ok (.invokestatic 34, 3) := by decide +kernel
theorem dX7_stateAt_10 : decode cX7_stateAt 10 = .ok (.aaload, 1) := by decide +kernel
theorem dX7_stateAt_11 : decode cX7_stateAt 11 = .ok (.areturn, 1) := by decide +kernel
theorem dX8_init_0 : decode cX8_init 0 = .ok (.aload_n 0, 1) := by decide +kernel
theorem dX8_init_1 : decode cX8_init 1 = .ok (.invokespecial 1, 3) := by decide +kernel
theorem dX8_init_4 : decode cX8_init 4 = .ok (.aload_n 0, 1) := by decide +kernel
theorem dX8_init_5 : decode cX8_init 5 = .ok (.new 7, 3) := by decide +kernel
theorem dX8_init_8 : decode cX8_init 8 = .ok (.dup, 1) := by decide +kernel
theorem dX8_init_9 : decode cX8_init 9 = .ok (.invokespecial 9, 3) := by decide +kernel
theorem dX8_init_12 : decode cX8_init 12 = .ok (.putfield 10, 3) := by decide +kernel
theorem dX8_init_15 : decode cX8_init 15 = .ok (.aload_n 0, 1) := by decide +kernel
theorem dX8_init_16 : decode cX8_init 16 = .ok (.new 16, 3) := by decide +kernel
theorem dX8_init_19 : decode cX8_init 19 = .ok (.dup, 1) := by decide +kernel
theorem dX8_init_20 : decode cX8_init 20 = .ok (.invokespecial 18, 3) := by decide +kernel
theorem dX8_init_23 : decode cX8_init 23 = .ok (.putfield 19, 3) := by decide +kernel
theorem dX8_init_26 : decode cX8_init 26 = .ok (.aload_n 0, 1) := by decide +kernel
theorem dX8_init_27 : decode cX8_init 27 = .ok (.new 23, 3) := by decide +kernel
theorem dX8_init_30 : decode cX8_init 30 = .ok (.dup, 1) := by decide +kernel
theorem dX8_init_31 : decode cX8_init 31 = .ok (.invokespecial 25, 3) := by decide +kernel
theorem dX8_init_34 : decode cX8_init 34 = .ok (.putfield 26, 3) := by decide +kernel
theorem dX8_init_37 : decode cX8_init 37 = .ok (.aload_n 0, 1) := by decide +kernel
theorem dX8_init_38 : decode cX8_init 38 = .ok (.iconst (-1), 1) := by decide +kernel
theorem dX8_init_39 : decode cX8_init 39 = .ok (.putfield 30, 3) := by decide +kernel
theorem dX8_init_42 : decode cX8_init 42 = .ok (.aload_n 0, 1) := by decide +kernel
theorem dX8_init_43 : decode cX8_init 43 = .ok (.iconst (-1), 1) := by decide +kernel
theorem dX8_init_44 : decode cX8_init 44 = .ok (.putfield 34, 3) := by decide +kernel
theorem dX8_init_47 : decode cX8_init 47 = .ok (.aload_n 0, 1) := by decide +kernel
theorem dX8_init_48 : decode cX8_init 48 = .ok (.new 37, 3) := by decide +kernel
theorem dX8_init_51 : decode cX8_init 51 = .ok (.dup, 1) := by decide +kernel
theorem dX8_init_52 : decode cX8_init 52 = .ok (.invokespecial 39, 3) := by decide +kernel
theorem dX8_init_55 : decode cX8_init 55 = .ok (.putfield 40, 3) := by decide +kernel
theorem dX8_init_58 : decode cX8_init 58 = .ok (.return_, 1) := by decide +kernel
theorem dX8_addRack_0 : decode cX8_addRack 0 = .ok (.aload_n 0, 1) := by decide +kernel
theorem dX8_addRack_1 : decode cX8_addRack 1 = .ok (.aload_n 0, 1) := by decide +kernel
theorem dX8_addRack_2 : decode cX8_addRack 2 = .ok (.getfield 10, 3) := by decide +kernel
theorem dX8_addRack_5 : decode cX8_addRack 5 = .ok (.invokevirtual 44, 3) := by decide +kernel
theorem dX8_addRack_8 : decode cX8_addRack 8 = .ok (.iload_n 1, 1) := by decide +kernel
theorem dX8_addRack_9 : decode cX8_addRack 9 = .ok (.iload_n 2, 1) := by decide +kernel
theorem dX8_addRack_10 : decode cX8_addRack 10 = .ok (.iload_n 3, 1) := by decide +kernel
theorem dX8_addRack_11 : decode cX8_addRack 11 = .ok (.invokevirtual 48, 3) := by decide +kernel
theorem dX8_addRack_14 : decode cX8_addRack 14 = .ok (.invokevirtual 52, 3) := by decide +kernel
theorem dX8_addRack_17 : decode cX8_addRack 17 = .ok (.ireturn, 1) := by decide +kernel
theorem dX8_removeRack_0 : decode cX8_removeRack 0 = .ok (.aload_n 0, 1) := by decide +kernel
theorem dX8_removeRack_1 : decode cX8_removeRack 1 = .ok (.aload_n 0, 1) := by decide +kernel
theorem dX8_removeRack_2 : decode cX8_removeRack 2 = .ok (.getfield 10, 3) := by decide +kernel
theorem dX8_removeRack_5 : decode cX8_removeRack 5 = .ok (.invokevirtual 44, 3) := by decide +kernel
theorem dX8_removeRack_8 : decode cX8_removeRack 8 = .ok (.iload_n 1, 1) := by decide +kernel
theorem dX8_removeRack_9 : decode cX8_removeRack 9 = .ok (.invokevirtual 56, 3) := by decide +kernel
theorem dX8_removeRack_12 : decode cX8_removeRack 12 = .ok (.invokevirtual 52, 3) := by decide +kernel
theorem dX8_removeRack_15 : decode cX8_removeRack 15 = .ok (.ireturn, 1) := by decide +kernel
theorem dX8_moveRack_0 : decode cX8_moveRack 0 = .ok (.aload_n 0, 1) := by decide +kernel
theorem dX8_moveRack_1 : decode cX8_moveRack 1 = .ok (.aload_n 0, 1) := by decide +kernel
theorem dX8_moveRack_2 : decode cX8_moveRack 2 = .ok (.getfield 10, 3) := by decide +kernel
theorem dX8_moveRack_5 : decode cX8_moveRack 5 = .ok (.invokevirtual 44, 3) := by decide +kernel
theorem dX8_moveRack_8 : decode cX8_moveRack 8 = .ok (.iload_n 1, 1) := by decide +kernel
theorem dX8_moveRack_9 : decode cX8_moveRack 9 = .ok (.iload_n 2, 1) := by decide +kernel
theorem dX8_moveRack_10 : decode cX8_moveRack 10 = .ok (.iload_n 3, 1) := by decide +kernel
theorem dX8_moveRack_11 : decode cX8_moveRack 11 = .ok (.invokevirtual 59, 3) := by decide +kernel
theorem dX8_moveRack_14 : decode cX8_moveRack 14 = .ok (.invokevirtual 52, 3) := by decide +kernel
theorem dX8_moveRack_17 : decode cX8_moveRack 17 = .ok (.ireturn, 1) := by decide +kernel
theorem dX8_setLoad_0 : decode cX8_setLoad 0 = .ok (.aload_n 0, 1) := by decide +kernel
theorem dX8_setLoad_1 : decode cX8_setLoad 1 = .ok (.aload_n 0, 1) := by decide +kernel
theorem dX8_setLoad_2 : decode cX8_setLoad 2 = .ok (.getfield 10, 3) := by decide +kernel
theorem dX8_setLoad_5 : decode cX8_setLoad 5 = .ok (.invokevirtual 44, 3) := by decide +kernel
theorem dX8_setLoad_8 : decode cX8_setLoad 8 = .ok (.iload_n 1, 1) := by decide +kernel
theorem dX8_setLoad_9 : decode cX8_setLoad 9 = .ok (.iload_n 2, 1) := by decide +kernel
theorem dX8_setLoad_10 : decode cX8_setLoad 10 = .ok (.invokevirtual 62, 3) := by decide +kernel
theorem dX8_setLoad_13 : decode cX8_setLoad 13 = .ok (.invokevirtual 52, 3) := by decide +kernel
theorem dX8_setLoad_16 : decode cX8_setLoad 16 = .ok (.ireturn, 1) := by decide +kernel
theorem dX8_migrate_0 : decode cX8_migrate 0 = .ok (.aload_n 0, 1) := by decide +kernel
theorem dX8_migrate_1 : decode cX8_migrate 1 = .ok (.aload_n 0, 1) := by decide +kernel
theorem dX8_migrate_2 : decode cX8_migrate 2 = .ok (.getfield 10, 3) := by decide +kernel
theorem dX8_migrate_5 : decode cX8_migrate 5 = .ok (.invokevirtual 44, 3) := by decide +kernel
theorem dX8_migrate_8 : decode cX8_migrate 8 = .ok (.iload_n 1, 1) := by decide +kernel
theorem dX8_migrate_9 : decode cX8_migrate 9 = .ok (.iload_n 2, 1) := by decide +kernel
theorem dX8_migrate_10 : decode cX8_migrate 10 = .ok (.iload_n 3, 1) := by decide +kernel
theorem dX8_migrate_11 : decode cX8_migrate 11 = .ok (.invokevirtual 66, 3) := by decide +kernel
theorem dX8_migrate_14 : decode cX8_migrate 14 = .ok (.invokevirtual 52, 3) := by decide +kernel
theorem dX8_migrate_17 : decode cX8_migrate 17 = .ok (.ireturn, 1) := by decide +kernel
theorem dX8_setFan_0 : decode cX8_setFan 0 = .ok (.aload_n 0, 1) := by decide +kernel
theorem dX8_setFan_1 : decode cX8_setFan 1 = .ok (.aload_n 0, 1) := by decide +kernel
theorem dX8_setFan_2 : decode cX8_setFan 2 = .ok (.getfield 10, 3) := by decide +kernel
theorem dX8_setFan_5 : decode cX8_setFan 5 = .ok (.invokevirtual 44, 3) := by decide +kernel
theorem dX8_setFan_8 : decode cX8_setFan 8 = .ok (.getfield 69, 3) := by decide +kernel
theorem dX8_setFan_11 : decode cX8_setFan 11 = .ok (.iload_n 1, 1) := by decide +kernel
theorem dX8_setFan_12 : decode cX8_setFan 12 = .ok (.iload_n 2, 1) := by decide +kernel
theorem dX8_setFan_13 : decode cX8_setFan 13 = .ok (.invokevirtual 73, 3) := by decide +kernel
theorem dX8_setFan_16 : decode cX8_setFan 16 = .ok (.invokevirtual 52, 3) := by decide +kernel
theorem dX8_setFan_19 : decode cX8_setFan 19 = .ok (.ireturn, 1) := by decide +kernel
theorem dX8_setCurvePoint_0 : decode cX8_setCurvePoint 0 = .ok (.aload_n 0, 1) := by decide +kernel
theorem dX8_setCurvePoint_1 : decode cX8_setCurvePoint 1 = .ok (.aload_n 0, 1) := by decide +kernel
theorem dX8_setCurvePoint_2 : decode cX8_setCurvePoint 2 = .ok (.getfield 10, 3) := by decide +kernel
theorem dX8_setCurvePoint_5 : decode cX8_setCurvePoint 5 = .ok (.invokevirtual 44, 3) := by decide +kernel
theorem dX8_setCurvePoint_8 : decode cX8_setCurvePoint 8 = .ok (.getfield 69, 3) := by decide +kernel
theorem dX8_setCurvePoint_11 : decode cX8_setCurvePoint 11 = .ok (.iload_n 1, 1) := by decide +kernel
theorem dX8_setCurvePoint_12 : decode cX8_setCurvePoint 12 = .ok (.iload_n 2, 1) := by decide +kernel
theorem dX8_setCurvePoint_13 : decode cX8_setCurvePoint 13 = .ok (.invokevirtual 78, 3) := by decide +kernel
theorem dX8_setCurvePoint_16 : decode cX8_setCurvePoint 16 = .ok (.invokevirtual 52, 3) := by decide +kernel
theorem dX8_setCurvePoint_19 : decode cX8_setCurvePoint 19 = .ok (.ireturn, 1) := by decide +kernel
theorem dX8_setLimit_0 : decode cX8_setLimit 0 = .ok (.aload_n 0, 1) := by decide +kernel
theorem dX8_setLimit_1 : decode cX8_setLimit 1 = .ok (.aload_n 0, 1) := by decide +kernel
theorem dX8_setLimit_2 : decode cX8_setLimit 2 = .ok (.getfield 10, 3) := by decide +kernel
theorem dX8_setLimit_5 : decode cX8_setLimit 5 = .ok (.invokevirtual 44, 3) := by decide +kernel
theorem dX8_setLimit_8 : decode cX8_setLimit 8 = .ok (.iload_n 1, 1) := by decide +kernel
theorem dX8_setLimit_9 : decode cX8_setLimit 9 = .ok (.invokevirtual 81, 3) := by decide +kernel
theorem dX8_setLimit_12 : decode cX8_setLimit 12 = .ok (.invokevirtual 52, 3) := by decide +kernel
theorem dX8_setLimit_15 : decode cX8_setLimit 15 = .ok (.ireturn, 1) := by decide +kernel
theorem dX8_advance_0 : decode cX8_advance 0 = .ok (.aload_n 0, 1) := by decide +kernel
theorem dX8_advance_1 : decode cX8_advance 1 = .ok (.aload_n 0, 1) := by decide +kernel
theorem dX8_advance_2 : decode cX8_advance 2 = .ok (.getfield 10, 3) := by decide +kernel
theorem dX8_advance_5 : decode cX8_advance 5 = .ok (.invokevirtual 44, 3) := by decide +kernel
theorem dX8_advance_8 : decode cX8_advance 8 = .ok (.iload_n 1, 1) := by decide +kernel
theorem dX8_advance_9 : decode cX8_advance 9 = .ok (.invokevirtual 84, 3) := by decide +kernel
theorem dX8_advance_12 : decode cX8_advance 12 = .ok (.invokevirtual 52, 3) := by decide +kernel
theorem dX8_advance_15 : decode cX8_advance 15 = .ok (.pop, 1) := by decide +kernel
theorem dX8_advance_16 : decode cX8_advance 16 = .ok (.aload_n 0, 1) := by decide +kernel
theorem dX8_advance_17 : decode cX8_advance 17 = .ok (.invokevirtual 87, 3) := by decide +kernel
theorem dX8_advance_20 : decode cX8_advance 20 = .ok (.invokevirtual 90, 3) := by decide +kernel
theorem dX8_advance_23 : decode cX8_advance 23 = .ok (.ireturn, 1) := by decide +kernel
theorem dX8_rackCount_0 : decode cX8_rackCount 0 = .ok (.aload_n 0, 1) := by decide +kernel
theorem dX8_rackCount_1 : decode cX8_rackCount 1 = .ok (.invokevirtual 87, 3) := by decide +kernel
theorem dX8_rackCount_4 : decode cX8_rackCount 4 = .ok (.getfield 94, 3) := by decide +kernel
theorem dX8_rackCount_7 : decode cX8_rackCount 7 = .ok (.getfield 98, 3) := by decide +kernel
theorem dX8_rackCount_10 : decode cX8_rackCount 10 = .ok (.ireturn, 1) := by decide +kernel
theorem dX8_aisleOf_0 : decode cX8_aisleOf 0 = .ok (.aload_n 0, 1) := by decide +kernel
theorem dX8_aisleOf_1 : decode cX8_aisleOf 1 = .ok (.iload_n 1, 1) := by decide +kernel
theorem dX8_aisleOf_2 : decode cX8_aisleOf 2 = .ok (.invokevirtual 103, 3) := by decide +kernel
theorem dX8_aisleOf_5 : decode cX8_aisleOf 5 = .ok (.getfield 107, 3) := by decide +kernel
theorem dX8_aisleOf_8 : decode cX8_aisleOf 8 = .ok (.ireturn, 1) := by decide +kernel
theorem dX8_placeOf_0 : decode cX8_placeOf 0 = .ok (.aload_n 0, 1) := by decide +kernel
theorem dX8_placeOf_1 : decode cX8_placeOf 1 = .ok (.iload_n 1, 1) := by decide +kernel
theorem dX8_placeOf_2 : decode cX8_placeOf 2 = .ok (.invokevirtual 103, 3) := by decide +kernel
theorem dX8_placeOf_5 : decode cX8_placeOf 5 = .ok (.getfield 112, 3) := by decide +kernel
theorem dX8_placeOf_8 : decode cX8_placeOf 8 = .ok (.ireturn, 1) := by decide +kernel
theorem dX8_load_0 : decode cX8_load 0 = .ok (.aload_n 0, 1) := by decide +kernel
theorem dX8_load_1 : decode cX8_load 1 = .ok (.iload_n 1, 1) := by decide +kernel
theorem dX8_load_2 : decode cX8_load 2 = .ok (.invokevirtual 103, 3) := by decide +kernel
theorem dX8_load_5 : decode cX8_load 5 = .ok (.getfield 115, 3) := by decide +kernel
theorem dX8_load_8 : decode cX8_load 8 = .ok (.ireturn, 1) := by decide +kernel
theorem dX8_rackAt_0 : decode cX8_rackAt 0 = .ok (.iload_n 1, 1) := by decide +kernel
theorem dX8_rackAt_1 : decode cX8_rackAt 1 = .ok (.invokestatic 118, 3) := by decide +kernel
theorem dX8_rackAt_4 : decode cX8_rackAt 4 = .ok (.iload_n 2, 1) := by decide +kernel
theorem dX8_rackAt_5 : decode cX8_rackAt 5 = .ok (.invokestatic 122, 3) := by decide +kernel
theorem dX8_rackAt_8 : decode cX8_rackAt 8 = .ok (.ifCond .ne 13, 3) := by decide +kernel
theorem dX8_rackAt_11 : decode cX8_rackAt 11 = .ok (.new 126, 3) := by decide +kernel
theorem dX8_rackAt_14 : decode cX8_rackAt 14 = .ok (.dup, 1) := by decide +kernel
theorem dX8_rackAt_15 : decode cX8_rackAt 15 = .ok (.ldc 128, 2) := by decide +kernel
theorem dX8_rackAt_17 : decode cX8_rackAt 17 = .ok (.invokespecial 130, 3) := by decide +kernel
theorem dX8_rackAt_20 : decode cX8_rackAt 20 = .ok (.athrow, 1) := by decide +kernel
theorem dX8_rackAt_21 : decode cX8_rackAt 21 = .ok (.aload_n 0, 1) := by decide +kernel
theorem dX8_rackAt_22 : decode cX8_rackAt 22 = .ok (.invokevirtual 87, 3) := by decide +kernel
theorem dX8_rackAt_25 : decode cX8_rackAt 25 = .ok (.getfield 94, 3) := by decide +kernel
theorem dX8_rackAt_28 : decode cX8_rackAt 28 = .ok (.iload_n 1, 1) := by decide +kernel
theorem dX8_rackAt_29 : decode cX8_rackAt 29 = .ok (.iload_n 2, 1) := by decide +kernel
theorem dX8_rackAt_30 : decode cX8_rackAt 30 = .ok (.invokevirtual 133, 3) := by decide +kernel
theorem dX8_rackAt_33 : decode cX8_rackAt 33 = .ok (.invokestatic 136, 3) := by decide +kernel
theorem dX8_rackAt_36 : decode cX8_rackAt 36 = .ok (.ireturn, 1) := by decide +kernel
theorem dX8_heat_0 : decode cX8_heat 0 = .ok (.iload_n 1, 1) := by decide +kernel
theorem dX8_heat_1 : decode cX8_heat 1 = .ok (.invokestatic 118, 3) := by decide +kernel
theorem dX8_heat_4 : decode cX8_heat 4 = .ok (.aload_n 0, 1) := by decide +kernel
theorem dX8_heat_5 : decode cX8_heat 5 = .ok (.invokevirtual 87, 3) := by decide +kernel
theorem dX8_heat_8 : decode cX8_heat 8 = .ok (.getfield 94, 3) := by decide +kernel
theorem dX8_heat_11 : decode cX8_heat 11 = .ok (.iload_n 1, 1) := by decide +kernel
theorem dX8_heat_12 : decode cX8_heat 12 = .ok (.invokevirtual 139, 3) := by decide +kernel
theorem dX8_heat_15 : decode cX8_heat 15 = .ok (.ireturn, 1) := by decide +kernel
theorem dX8_totalLoad_0 : decode cX8_totalLoad 0 = .ok (.aload_n 0, 1) := by decide +kernel
theorem dX8_totalLoad_1 : decode cX8_totalLoad 1 = .ok (.invokevirtual 87, 3) := by decide +kernel
theorem dX8_totalLoad_4 : decode cX8_totalLoad 4 = .ok (.getfield 94, 3) := by decide +kernel
theorem dX8_totalLoad_7 : decode cX8_totalLoad 7 = .ok (.invokevirtual 142, 3) := by decide +kernel
theorem dX8_totalLoad_10 : decode cX8_totalLoad 10 = .ok (.ireturn, 1) := by decide +kernel
theorem dX8_fanSpeed_0 : decode cX8_fanSpeed 0 = .ok (.iload_n 1, 1) := by decide +kernel
theorem dX8_fanSpeed_1 : decode cX8_fanSpeed 1 = .ok (.invokestatic 118, 3) := by decide +kernel
theorem dX8_fanSpeed_4 : decode cX8_fanSpeed 4 = .ok (.aload_n 0, 1) := by decide +kernel
theorem dX8_fanSpeed_5 : decode cX8_fanSpeed 5 = .ok (.invokevirtual 87, 3) := by decide +kernel
theorem dX8_fanSpeed_8 : decode cX8_fanSpeed 8 = .ok (.getfield 69, 3) := by decide +kernel
theorem dX8_fanSpeed_11 : decode cX8_fanSpeed 11 = .ok (.iload_n 1, 1) := by decide +kernel
theorem dX8_fanSpeed_12 : decode cX8_fanSpeed 12 = .ok (.invokevirtual 148, 3) := by decide +kernel
theorem dX8_fanSpeed_15 : decode cX8_fanSpeed 15 = .ok (.ireturn, 1) := by decide +kernel
theorem dX8_curvePoint_0 : decode cX8_curvePoint 0 = .ok (.iload_n 1, 1) := by decide +kernel
theorem dX8_curvePoint_1 : decode cX8_curvePoint 1 = .ok (.invokestatic 151, 3) := by decide +kernel
theorem dX8_curvePoint_4 : decode cX8_curvePoint 4 = .ok (.ifCond .ne 13, 3) := by decide +kernel
theorem dX8_curvePoint_7 : decode cX8_curvePoint 7 = .ok (.new 154, 3) := by decide +kernel
theorem dX8_curvePoint_10 : decode cX8_curvePoint 10 = .ok (.dup, 1) := by decide +kernel
theorem dX8_curvePoint_11 : decode cX8_curvePoint 11 = .ok (.ldc 156, 2) := by decide +kernel
theorem dX8_curvePoint_13 : decode cX8_curvePoint 13 = .ok (.invokespecial 158, 3) := by decide +kernel
theorem dX8_curvePoint_16 : decode cX8_curvePoint 16 = .ok (.athrow, 1) := by decide +kernel
theorem dX8_curvePoint_17 : decode cX8_curvePoint 17 = .ok (.aload_n 0, 1) := by decide +kernel
theorem dX8_curvePoint_18 : decode cX8_curvePoint 18 = .ok (.invokevirtual 87, 3) := by decide +kernel
theorem dX8_curvePoint_21 : decode cX8_curvePoint 21 = .ok (.getfield 69, 3) := by decide +kernel
theorem dX8_curvePoint_24 : decode cX8_curvePoint 24 = .ok (.iload_n 1, 1) := by decide +kernel
theorem dX8_curvePoint_25 : decode cX8_curvePoint 25 = .ok (.invokevirtual 159, 3) := by decide +kernel
theorem dX8_curvePoint_28 : decode cX8_curvePoint 28 = .ok (.ireturn, 1) := by decide +kernel
theorem dX8_airflowAt_0 : decode cX8_airflowAt 0 = .ok (.iload_n 1, 1) := by decide +kernel
theorem dX8_airflowAt_1 : decode cX8_airflowAt 1 = .ok (.invokestatic 162, 3) := by decide +kernel
theorem dX8_airflowAt_4 : decode cX8_airflowAt 4 = .ok (.ifCond .ne 13, 3) := by decide +kernel
theorem dX8_airflowAt_7 : decode cX8_airflowAt 7 = .ok (.new 126, 3) := by decide +kernel
theorem dX8_airflowAt_10 : decode cX8_airflowAt 10 = .ok (.dup, 1) := by decide +kernel
theorem dX8_airflowAt_11 : decode cX8_airflowAt 11 = .ok (.ldc 165, 2) := by decide +kernel
theorem dX8_airflowAt_13 : decode cX8_airflowAt 13 = .ok (.invokespecial 130, 3) := by decide +kernel
theorem dX8_airflowAt_16 : decode cX8_airflowAt 16 = .ok (.athrow, 1) := by decide +kernel
theorem dX8_airflowAt_17 : decode cX8_airflowAt 17 = .ok (.aload_n 0, 1) := by decide +kernel
theorem dX8_airflowAt_18 : decode cX8_airflowAt 18 = .ok (.invokevirtual 87, 3) := by decide +kernel
theorem dX8_airflowAt_21 : decode cX8_airflowAt 21 = .ok (.getfield 69, 3) := by decide +kernel
theorem dX8_airflowAt_24 : decode cX8_airflowAt 24 = .ok (.iload_n 1, 1) := by decide +kernel
theorem dX8_airflowAt_25 : decode cX8_airflowAt 25 = .ok (.invokevirtual 167, 3) := by decide +kernel
theorem dX8_airflowAt_28 : decode cX8_airflowAt 28 = .ok (.freturn, 1) := by decide +kernel
theorem dX8_inletTemperature_0 : decode cX8_inletTemperature 0 = .ok (.iload_n 1, 1) := by decide +kernel
theorem dX8_inletTemperature_1 : decode cX8_inletTemperature 1 = .ok (.invokestatic 118, 3) := by decide +kernel
theorem dX8_inletTemperature_4 : decode cX8_inletTemperature 4 = .ok (.aload_n 0, 1) := by decide +kernel
theorem dX8_inletTemperature_5 : decode cX8_inletTemperature 5 = .ok (.invokevirtual 87, 3) := by decide +kernel
theorem dX8_inletTemperature_8 : decode cX8_inletTemperature 8 = .ok (.iload_n 1, 1) := by decide +kernel
theorem dX8_inletTemperature_9 : decode cX8_inletTemperature 9 = .ok (.invokevirtual 171, 3) := by decide +kernel
theorem dX8_inletTemperature_12 : decode cX8_inletTemperature 12 = .ok (.freturn, 1) := by decide +kernel
theorem dX8_rise_0 : decode cX8_rise 0 = .ok (.iload_n 1, 1) := by decide +kernel
theorem dX8_rise_1 : decode cX8_rise 1 = .ok (.invokestatic 118, 3) := by decide +kernel
theorem dX8_rise_4 : decode cX8_rise 4 = .ok (.aload_n 0, 1) := by decide +kernel
theorem dX8_rise_5 : decode cX8_rise 5 = .ok (.invokevirtual 87, 3) := by decide +kernel
theorem dX8_rise_8 : decode cX8_rise 8 = .ok (.iload_n 1, 1) := by decide +kernel
theorem dX8_rise_9 : decode cX8_rise 9 = .ok (.aload_n 0, 1) := by decide +kernel
theorem dX8_rise_10 : decode cX8_rise 10 = .ok (.invokevirtual 87, 3) := by decide +kernel
theorem dX8_rise_13 : decode cX8_rise 13 = .ok (.getfield 69, 3) := by decide +kernel
theorem dX8_rise_16 : decode cX8_rise 16 = .ok (.iload_n 1, 1) := by decide +kernel
theorem dX8_rise_17 : decode cX8_rise 17 = .ok (.invokevirtual 148, 3) := by decide +kernel
theorem dX8_rise_20 : decode cX8_rise 20 = .ok (.invokevirtual 174, 3) := by decide +kernel
theorem dX8_rise_23 : decode cX8_rise 23 = .ok (.freturn, 1) := by decide +kernel
theorem dX8_temperature_0 : decode cX8_temperature 0 = .ok (.aload_n 0, 1) := by decide +kernel
theorem dX8_temperature_1 : decode cX8_temperature 1 = .ok (.invokevirtual 87, 3) := by decide +kernel
theorem dX8_temperature_4 : decode cX8_temperature 4 = .ok (.aload_n 0, 1) := by decide +kernel
theorem dX8_temperature_5 : decode cX8_temperature 5 = .ok (.iload_n 1, 1) := by decide +kernel
theorem dX8_temperature_6 : decode cX8_temperature 6 = .ok (.invokevirtual 103, 3) := by decide +kernel
theorem dX8_temperature_9 : decode cX8_temperature 9 = .ok (.invokevirtual 178, 3) := by decide +kernel
theorem dX8_temperature_12 : decode cX8_temperature 12 = .ok (.freturn, 1) := by decide +kernel
theorem dX8_isHot_0 : decode cX8_isHot 0 = .ok (.aload_n 0, 1) := by decide +kernel
theorem dX8_isHot_1 : decode cX8_isHot 1 = .ok (.invokevirtual 87, 3) := by decide +kernel
theorem dX8_isHot_4 : decode cX8_isHot 4 = .ok (.aload_n 0, 1) := by decide +kernel
theorem dX8_isHot_5 : decode cX8_isHot 5 = .ok (.iload_n 1, 1) := by decide +kernel
theorem dX8_isHot_6 : decode cX8_isHot 6 = .ok (.invokevirtual 103, 3) := by decide +kernel
theorem dX8_isHot_9 : decode cX8_isHot 9 = .ok (.invokevirtual 182, 3) := by decide +kernel
theorem dX8_isHot_12 : decode cX8_isHot 12 = .ok (.ireturn, 1) := by decide +kernel
theorem dX8_hotSpots_0 : decode cX8_hotSpots 0 = .ok (.aload_n 0, 1) := by decide +kernel
theorem dX8_hotSpots_1 : decode cX8_hotSpots 1 = .ok (.invokevirtual 87, 3) := by decide +kernel
theorem dX8_hotSpots_4 : decode cX8_hotSpots 4 = .ok (.invokevirtual 90, 3) := by decide +kernel
theorem dX8_hotSpots_7 : decode cX8_hotSpots 7 = .ok (.ireturn, 1) := by decide +kernel
theorem dX8_neededSpeed_0 : decode cX8_neededSpeed 0 = .ok (.iload_n 1, 1) := by decide +kernel
theorem dX8_neededSpeed_1 : decode cX8_neededSpeed 1 = .ok (.invokestatic 118, 3) := by decide +kernel
theorem dX8_neededSpeed_4 : decode cX8_neededSpeed 4 = .ok (.aload_n 0, 1) := by decide +kernel
theorem dX8_neededSpeed_5 : decode cX8_neededSpeed 5 = .ok (.invokevirtual 87, 3) := by decide +kernel
theorem dX8_neededSpeed_8 : decode cX8_neededSpeed 8 = .ok (.iload_n 1, 1) := by decide +kernel
theorem dX8_neededSpeed_9 : decode cX8_neededSpeed 9 = .ok (.invokevirtual 189, 3) := by decide +kernel
theorem dX8_neededSpeed_12 : decode cX8_neededSpeed 12 = .ok (.invokestatic 136, 3) := by decide +kernel
theorem dX8_neededSpeed_15 : decode cX8_neededSpeed 15 = .ok (.ireturn, 1) := by decide +kernel
theorem dX8_neededSpeedBySearch_0 : decode cX8_neededSpeedBySearch 0 = .ok (.iload_n 1, 1) := by decide +kernel
theorem dX8_neededSpeedBySearch_1 : decode cX8_neededSpeedBySearch 1 = .ok (.invokestatic 118, 3) := by decide +kernel
theorem dX8_neededSpeedBySearch_4 : decode cX8_neededSpeedBySearch 4 = .ok (.aload_n 0, 1) := by decide +kernel
theorem dX8_neededSpeedBySearch_5 : decode cX8_neededSpeedBySearch 5 = .ok (.invokevirtual 87, 3) := by decide +kernel
theorem dX8_neededSpeedBySearch_8 : decode cX8_neededSpeedBySearch 8 = .ok (.iload_n 1, 1) := by decide +kernel
theorem dX8_neededSpeedBySearch_9 : decode cX8_neededSpeedBySearch 9 = .ok (.invokevirtual 192, 3) := by decide +kernel
theorem dX8_neededSpeedBySearch_12 : decode cX8_neededSpeedBySearch 12 = .ok (.invokestatic 136, 3) := by decide +kernel
theorem dX8_neededSpeedBySearch_15 : decode cX8_neededSpeedBySearch 15 = .ok (.ireturn, 1) := by decide +kernel
theorem dX8_minutesUntilHot_0 : decode cX8_minutesUntilHot 0 = .ok (.aload_n 0, 1) := by decide +kernel
theorem dX8_minutesUntilHot_1 : decode cX8_minutesUntilHot 1 = .ok (.invokevirtual 87, 3) := by decide +kernel
theorem dX8_minutesUntilHot_4 : decode cX8_minutesUntilHot 4 = .ok (.aload_n 0, 1) := by decide +kernel
theorem dX8_minutesUntilHot_5 : decode cX8_minutesUntilHot 5 = .ok (.iload_n 1, 1) := by decide +kernel
theorem dX8_minutesUntilHot_6 : decode cX8_minutesUntilHot 6 = .ok (.invokevirtual 103, 3) := by decide +kernel
theorem dX8_minutesUntilHot_9 : decode cX8_minutesUntilHot 9 = .ok (.invokevirtual 195, 3) := by decide +kernel
theorem dX8_minutesUntilHot_12 : decode cX8_minutesUntilHot 12 = .ok (.invokestatic 136, 3) := by decide +kernel
theorem dX8_minutesUntilHot_15 : decode cX8_minutesUntilHot 15 = .ok (.ireturn, 1) := by decide +kernel
theorem dX8_rackByTemperature_0 : decode cX8_rackByTemperature 0 = .ok (.aload_n 0, 1) := by decide +kernel
theorem dX8_rackByTemperature_1 : decode cX8_rackByTemperature 1 = .ok (.invokevirtual 87, 3) := by decide +kernel
theorem dX8_rackByTemperature_4 : decode cX8_rackByTemperature 4 = .ok (.iload_n 1, 1) := by decide +kernel
theorem dX8_rackByTemperature_5 : decode cX8_rackByTemperature 5 = .ok (.invokevirtual 199, 3) := by decide +kernel
theorem dX8_rackByTemperature_8 : decode cX8_rackByTemperature 8 = .ok (.invokestatic 136, 3) := by decide +kernel
theorem dX8_rackByTemperature_11 : decode cX8_rackByTemperature 11 = .ok (.ireturn, 1) := by decide +kernel
theorem dX8_aisleByHeat_0 : decode cX8_aisleByHeat 0 = .ok (.aload_n 0, 1) := by decide +kernel
theorem dX8_aisleByHeat_1 : decode cX8_aisleByHeat 1 = .ok (.invokevirtual 87, 3) := by decide +kernel
theorem dX8_aisleByHeat_4 : decode cX8_aisleByHeat 4 = .ok (.iload_n 1, 1) := by decide +kernel
theorem dX8_aisleByHeat_5 : decode cX8_aisleByHeat 5 = .ok (.invokevirtual 202, 3) := by decide +kernel
theorem dX8_aisleByHeat_8 : decode cX8_aisleByHeat 8 = .ok (.invokestatic 136, 3) := by decide +kernel
theorem dX8_aisleByHeat_11 : decode cX8_aisleByHeat 11 = .ok (.ireturn, 1) := by decide +kernel
theorem dX8_storedHeat_0 : decode cX8_storedHeat 0 = .ok (.iload_n 1, 1) := by decide +kernel
theorem dX8_storedHeat_1 : decode cX8_storedHeat 1 = .ok (.invokestatic 118, 3) := by decide +kernel
theorem dX8_storedHeat_4 : decode cX8_storedHeat 4 = .ok (.aload_n 0, 1) := by decide +kernel
theorem dX8_storedHeat_5 : decode cX8_storedHeat 5 = .ok (.invokevirtual 87, 3) := by decide +kernel
theorem dX8_storedHeat_8 : decode cX8_storedHeat 8 = .ok (.iload_n 1, 1) := by decide +kernel
theorem dX8_storedHeat_9 : decode cX8_storedHeat 9 = .ok (.invokevirtual 205, 3) := by decide +kernel
theorem dX8_storedHeat_12 : decode cX8_storedHeat 12 = .ok (.ireturn, 1) := by decide +kernel
theorem dX8_limit_0 : decode cX8_limit 0 = .ok (.aload_n 0, 1) := by decide +kernel
theorem dX8_limit_1 : decode cX8_limit 1 = .ok (.invokevirtual 87, 3) := by decide +kernel
theorem dX8_limit_4 : decode cX8_limit 4 = .ok (.getfield 208, 3) := by decide +kernel
theorem dX8_limit_7 : decode cX8_limit 7 = .ok (.ireturn, 1) := by decide +kernel
theorem dX8_minute_0 : decode cX8_minute 0 = .ok (.aload_n 0, 1) := by decide +kernel
theorem dX8_minute_1 : decode cX8_minute 1 = .ok (.invokevirtual 87, 3) := by decide +kernel
theorem dX8_minute_4 : decode cX8_minute 4 = .ok (.getfield 211, 3) := by decide +kernel
theorem dX8_minute_7 : decode cX8_minute 7 = .ok (.ireturn, 1) := by decide +kernel
theorem dX8_madeTotal_0 : decode cX8_madeTotal 0 = .ok (.aload_n 0, 1) := by decide +kernel
theorem dX8_madeTotal_1 : decode cX8_madeTotal 1 = .ok (.invokevirtual 87, 3) := by decide +kernel
theorem dX8_madeTotal_4 : decode cX8_madeTotal 4 = .ok (.getfield 214, 3) := by decide +kernel
theorem dX8_madeTotal_7 : decode cX8_madeTotal 7 = .ok (.ireturn, 1) := by decide +kernel
theorem dX8_carriedTotal_0 : decode cX8_carriedTotal 0 = .ok (.aload_n 0, 1) := by decide +kernel
theorem dX8_carriedTotal_1 : decode cX8_carriedTotal 1 = .ok (.invokevirtual 87, 3) := by decide +kernel
theorem dX8_carriedTotal_4 : decode cX8_carriedTotal 4 = .ok (.getfield 217, 3) := by decide +kernel
theorem dX8_carriedTotal_7 : decode cX8_carriedTotal 7 = .ok (.ireturn, 1) := by decide +kernel
theorem dX8_energyTotal_0 : decode cX8_energyTotal 0 = .ok (.aload_n 0, 1) := by decide +kernel
theorem dX8_energyTotal_1 : decode cX8_energyTotal 1 = .ok (.invokevirtual 87, 3) := by decide +kernel
theorem dX8_energyTotal_4 : decode cX8_energyTotal 4 = .ok (.getfield 220, 3) := by decide +kernel
theorem dX8_energyTotal_7 : decode cX8_energyTotal 7 = .ok (.ireturn, 1) := by decide +kernel
theorem dX8_meanTemperature_0 : decode cX8_meanTemperature 0 = .ok (.aload_n 0, 1) := by decide +kernel
theorem dX8_meanTemperature_1 : decode cX8_meanTemperature 1 = .ok (.invokevirtual 223, 3) := by decide +kernel
theorem dX8_meanTemperature_4 : decode cX8_meanTemperature 4 = .ok (.aload_n 0, 1) := by decide +kernel
theorem dX8_meanTemperature_5 : decode cX8_meanTemperature 5 = .ok (.invokevirtual 87, 3) := by decide +kernel
theorem dX8_meanTemperature_8 : decode cX8_meanTemperature 8 = .ok (.invokevirtual 226, 3) := by decide +kernel
theorem dX8_meanTemperature_11 : decode cX8_meanTemperature 11 = .ok (.aload_n 0, 1) := by decide +kernel
theorem dX8_meanTemperature_12 : decode cX8_meanTemperature 12 = .ok (.invokevirtual 87, 3) := by decide +kernel
theorem dX8_meanTemperature_15 : decode cX8_meanTemperature 15 = .ok (.getfield 94, 3) := by decide +kernel
theorem dX8_meanTemperature_18 : decode cX8_meanTemperature 18 = .ok (.getfield 98, 3) := by decide +kernel
theorem dX8_meanTemperature_21 : decode cX8_meanTemperature 21 = .ok (.i2d, 1) := by decide +kernel
theorem dX8_meanTemperature_22 : decode cX8_meanTemperature 22 = .ok (.ddiv, 1) := by decide +kernel
theorem dX8_meanTemperature_23 : decode cX8_meanTemperature 23 = .ok (.dreturn, 1) := by decide +kernel
theorem dX8_hotShare_0 : decode cX8_hotShare 0 = .ok (.aload_n 0, 1) := by decide +kernel
theorem dX8_hotShare_1 : decode cX8_hotShare 1 = .ok (.invokevirtual 223, 3) := by decide +kernel
theorem dX8_hotShare_4 : decode cX8_hotShare 4 = .ok (.aload_n 0, 1) := by decide +kernel
theorem dX8_hotShare_5 : decode cX8_hotShare 5 = .ok (.invokevirtual 87, 3) := by decide +kernel
theorem dX8_hotShare_8 : decode cX8_hotShare 8 = .ok (.invokevirtual 90, 3) := by decide +kernel
theorem dX8_hotShare_11 : decode cX8_hotShare 11 = .ok (.i2f, 1) := by decide +kernel
theorem dX8_hotShare_12 : decode cX8_hotShare 12 = .ok (.aload_n 0, 1) := by decide +kernel
theorem dX8_hotShare_13 : decode cX8_hotShare 13 = .ok (.invokevirtual 87, 3) := by decide +kernel
theorem dX8_hotShare_16 : decode cX8_hotShare 16 = .ok (.getfield 94, 3) := by decide +kernel
theorem dX8_hotShare_19 : decode cX8_hotShare 19 = .ok (.getfield 98, 3) := by decide +kernel
theorem dX8_hotShare_22 : decode cX8_hotShare 22 = .ok (.i2f, 1) := by decide +kernel
theorem dX8_hotShare_23 : decode cX8_hotShare 23 = .ok (.fdiv, 1) := by decide +kernel
theorem dX8_hotShare_24 : decode cX8_hotShare 24 = .ok (.freturn, 1) := by decide +kernel
theorem dX8_renderRack_0 : decode cX8_renderRack 0 = .ok (.aload_n 0, 1) := by decide +kernel
theorem dX8_renderRack_1 : decode cX8_renderRack 1 = .ok (.iload_n 1, 1) := by decide +kernel
theorem dX8_renderRack_2 : decode cX8_renderRack 2 = .ok (.invokevirtual 103, 3) := by decide +kernel
theorem dX8_renderRack_5 : decode cX8_renderRack 5 = .ok (.astore_n 2, 1) := by decide +kernel
theorem dX8_renderRack_6 : decode cX8_renderRack 6 = .ok (.aload_n 0, 1) := by decide +kernel
theorem dX8_renderRack_7 : decode cX8_renderRack 7 = .ok (.getfield 40, 3) := by decide +kernel
theorem dX8_renderRack_10 : decode cX8_renderRack 10 = .ok (.iconst 0, 1) := by decide +kernel
theorem dX8_renderRack_11 : decode cX8_renderRack 11 = .ok (.invokevirtual 237, 3) := by decide +kernel
theorem dX8_renderRack_14 : decode cX8_renderRack 14 = .ok (.aload_n 0, 1) := by decide +kernel
theorem dX8_renderRack_15 : decode cX8_renderRack 15 = .ok (.getfield 40, 3) := by decide +kernel
theorem dX8_renderRack_18 : decode cX8_renderRack 18 = .ok (.iload_n 1, 1) := by decide +kernel
theorem dX8_renderRack_19 : decode cX8_renderRack 19 = .ok (.invokevirtual 240, 3) := by decide +kernel
theorem dX8_renderRack_22 : decode cX8_renderRack 22 = .ok (.bipush 64, 2) := by decide +kernel
theorem dX8_renderRack_24 : decode cX8_renderRack 24 = .ok (.invokevirtual 244, 3) := by decide +kernel
theorem dX8_renderRack_27 : decode cX8_renderRack 27 = .ok (.aload_n 2, 1) := by decide +kernel
theorem dX8_renderRack_28 : decode cX8_renderRack 28 = .ok (.getfield 107, 3) := by decide +kernel
theorem dX8_renderRack_31 : decode cX8_renderRack 31 = .ok (.invokevirtual 240, 3) := by decide +kernel
theorem dX8_renderRack_34 : decode cX8_renderRack 34 = .ok (.bipush 46, 2) := by decide +kernel
theorem dX8_renderRack_36 : decode cX8_renderRack 36 = .ok (.invokevirtual 244, 3) := by decide +kernel
theorem dX8_renderRack_39 : decode cX8_renderRack 39 = .ok (.aload_n 2, 1) := by decide +kernel
theorem dX8_renderRack_40 : decode cX8_renderRack 40 = .ok (.getfield 112, 3) := by decide +kernel
theorem dX8_renderRack_43 : decode cX8_renderRack 43 = .ok (.invokevirtual 240, 3) := by decide +kernel
theorem dX8_renderRack_46 : decode cX8_renderRack 46 = .ok (.pop, 1) := by decide +kernel
theorem dX8_renderRack_47 : decode cX8_renderRack 47 = .ok (.aload_n 0, 1) := by decide +kernel
theorem dX8_renderRack_48 : decode cX8_renderRack 48 = .ok (.getfield 40, 3) := by decide +kernel
theorem dX8_renderRack_51 : decode cX8_renderRack 51 = .ok (.bipush 58, 2) := by decide +kernel
theorem dX8_renderRack_53 : decode cX8_renderRack 53 = .ok (.invokevirtual 244, 3) := by decide +kernel
theorem dX8_renderRack_56 : decode cX8_renderRack 56 = .ok (.aload_n 2, 1) := by decide +kernel
theorem dX8_renderRack_57 : decode cX8_renderRack 57 = .ok (.getfield 115, 3) := by decide +kernel
theorem dX8_renderRack_60 : decode cX8_renderRack 60 = .ok (.invokevirtual 240, 3) := by decide +kernel
theorem dX8_renderRack_63 : decode cX8_renderRack 63 = .ok (.pop, 1) := by decide +kernel
theorem dX8_renderRack_64 : decode cX8_renderRack 64 = .ok (.aload_n 0, 1) := by decide +kernel
theorem dX8_renderRack_65 : decode cX8_renderRack 65 = .ok (.invokevirtual 87, 3) := by decide +kernel
theorem dX8_renderRack_68 : decode cX8_renderRack 68 = .ok (.aload_n 2, 1) := by decide +kernel
theorem dX8_renderRack_69 : decode cX8_renderRack 69 = .ok (.invokevirtual 182, 3) := by decide +kernel
theorem dX8_renderRack_72 : decode cX8_renderRack 72 = .ok (.ifCond .eq 13, 3) := by decide +kernel
theorem dX8_renderRack_75 : decode cX8_renderRack 75 = .ok (.aload_n 0, 1) := by decide +kernel
theorem dX8_renderRack_76 : decode cX8_renderRack 76 = .ok (.getfield 40, 3) := by decide +kernel
theorem dX8_renderRack_79 : decode cX8_renderRack 79 = .ok (.bipush 33, 2) := by decide +kernel
theorem dX8_renderRack_81 : decode cX8_renderRack 81 = .ok (.invokevirtual 244, 3) := by decide +kernel
theorem dX8_renderRack_84 : decode cX8_renderRack 84 = .ok (.pop, 1) := by decide +kernel
theorem dX8_renderRack_85 : decode cX8_renderRack 85 = .ok (.aload_n 0, 1) := by decide +kernel
theorem dX8_renderRack_86 : decode cX8_renderRack 86 = .ok (.getfield 40, 3) := by decide +kernel
theorem dX8_renderRack_89 : decode cX8_renderRack 89 = .ok (.invokevirtual 247, 3) := by decide +kernel
theorem dX8_renderRack_92 : decode cX8_renderRack 92 = .ok (.ireturn, 1) := by decide +kernel
theorem dX8_renderAisle_0 : decode cX8_renderAisle 0 = .ok (.iload_n 1, 1) := by decide +kernel
theorem dX8_renderAisle_1 : decode cX8_renderAisle 1 = .ok (.invokestatic 118, 3) := by decide +kernel
theorem dX8_renderAisle_4 : decode cX8_renderAisle 4 = .ok (.aload_n 0, 1) := by decide +kernel
theorem dX8_renderAisle_5 : decode cX8_renderAisle 5 = .ok (.getfield 40, 3) := by decide +kernel
theorem dX8_renderAisle_8 : decode cX8_renderAisle 8 = .ok (.iconst 0, 1) := by decide +kernel
theorem dX8_renderAisle_9 : decode cX8_renderAisle 9 = .ok (.invokevirtual 237, 3) := by decide +kernel
theorem dX8_renderAisle_12 : decode cX8_renderAisle 12 = .ok (.aload_n 0, 1) := by decide +kernel
theorem dX8_renderAisle_13 : decode cX8_renderAisle 13 = .ok (.getfield 40, 3) := by decide +kernel
theorem dX8_renderAisle_16 : decode cX8_renderAisle 16 = .ok (.bipush 102, 2) := by decide +kernel
theorem dX8_renderAisle_18 : decode cX8_renderAisle 18 = .ok (.invokevirtual 244, 3) := by decide +kernel
theorem dX8_renderAisle_21 : decode cX8_renderAisle 21 = .ok (.aload_n 0, 1) := by decide +kernel
theorem dX8_renderAisle_22 : decode cX8_renderAisle 22 = .ok (.invokevirtual 87, 3) := by decide +kernel
theorem dX8_renderAisle_25 : decode cX8_renderAisle 25 = .ok (.getfield 69, 3) := by decide +kernel
theorem dX8_renderAisle_28 : decode cX8_renderAisle 28 = .ok (.iload_n 1, 1) := by decide +kernel
theorem dX8_renderAisle_29 : decode cX8_renderAisle 29 = .ok (.invokevirtual 148, 3) := by decide +kernel
theorem dX8_renderAisle_32 : decode cX8_renderAisle 32 = .ok (.invokevirtual 240, 3) := by decide +kernel
theorem dX8_renderAisle_35 : decode cX8_renderAisle 35 = .ok (.pop, 1) := by decide +kernel
theorem dX8_renderAisle_36 : decode cX8_renderAisle 36 = .ok (.iconst 0, 1) := by decide +kernel
theorem dX8_renderAisle_37 : decode cX8_renderAisle 37 = .ok (.istore_n 2, 1) := by decide +kernel
theorem dX8_renderAisle_38 : decode cX8_renderAisle 38 = .ok (.iload_n 2, 1) := by decide +kernel
theorem dX8_renderAisle_39 : decode cX8_renderAisle 39 = .ok (.bipush 6, 2) := by decide +kernel
theorem dX8_renderAisle_41 : decode cX8_renderAisle 41 = .ok (.if_icmp .ge 80, 3) := by decide +kernel
theorem dX8_renderAisle_44 : decode cX8_renderAisle 44 = .ok (.aload_n 0, 1) := by decide +kernel
theorem dX8_renderAisle_45 : decode cX8_renderAisle 45 = .ok (.getfield 40, 3) := by decide +kernel
theorem dX8_renderAisle_48 : decode cX8_renderAisle 48 = .ok (.iload_n 2, 1) := by decide +kernel
theorem dX8_renderAisle_49 : decode cX8_renderAisle 49 = .ok (.ifCond .ne 8, 3) := by decide +kernel
theorem dX8_renderAisle_52 : decode cX8_renderAisle 52 = .ok (.bipush 32, 2) := by decide +kernel
theorem dX8_renderAisle_54 : decode cX8_renderAisle 54 = .ok (.goto 5, 3) := by decide +kernel
theorem dX8_renderAisle_57 : decode cX8_renderAisle 57 = .ok (.bipush 44, 2) := by decide +kernel
theorem dX8_renderAisle_59 : decode cX8_renderAisle 59 = .ok (.invokevirtual 244, 3) := by decide +kernel
theorem dX8_renderAisle_62 : decode cX8_renderAisle 62 = .ok (.pop, 1) := by decide +kernel
theorem dX8_renderAisle_63 : decode cX8_renderAisle 63 = .ok (.aload_n 0, 1) := by decide +kernel
theorem dX8_renderAisle_64 : decode cX8_renderAisle 64 = .ok (.invokevirtual 87, 3) := by decide +kernel
theorem dX8_renderAisle_67 : decode cX8_renderAisle 67 = .ok (.getfield 94, 3) := by decide +kernel
theorem dX8_renderAisle_70 : decode cX8_renderAisle 70 = .ok (.aload_n 0, 1) := by decide +kernel
theorem dX8_renderAisle_71 : decode cX8_renderAisle 71 = .ok (.invokevirtual 87, 3) := by decide +kernel
theorem dX8_renderAisle_74 : decode cX8_renderAisle 74 = .ok (.getfield 94, 3) := by decide +kernel
theorem dX8_renderAisle_77 : decode cX8_renderAisle 77 = .ok (.iload_n 1, 1) := by decide +kernel
theorem dX8_renderAisle_78 : decode cX8_renderAisle 78 = .ok (.iload_n 2, 1) := by decide +kernel
theorem dX8_renderAisle_79 : decode cX8_renderAisle 79 = .ok (.invokevirtual 133, 3) := by decide +kernel
theorem dX8_renderAisle_82 : decode cX8_renderAisle 82 = .ok (.invokevirtual 250, 3) := by decide +kernel
theorem dX8_renderAisle_85 : decode cX8_renderAisle 85 = .ok (.astore_n 3, 1) := by decide +kernel
theorem dX8_renderAisle_86 : decode cX8_renderAisle 86 = .ok (.aload_n 3, 1) := by decide +kernel
theorem dX8_renderAisle_87 : decode cX8_renderAisle 87 = .ok (.ifnonnull 16, 3) := by decide +kernel
theorem dX8_renderAisle_90 : decode cX8_renderAisle 90 = .ok (.aload_n 0, 1) := by decide +kernel
theorem dX8_renderAisle_91 : decode cX8_renderAisle 91 = .ok (.getfield 40, 3) := by decide +kernel
theorem dX8_renderAisle_94 : decode cX8_renderAisle 94 = .ok (.bipush 45, 2) := by decide +kernel
theorem dX8_renderAisle_96 : decode cX8_renderAisle 96 = .ok (.invokevirtual 244, 3) := by decide +kernel
theorem dX8_renderAisle_99 : decode cX8_renderAisle 99 = .ok (.pop, 1) := by decide +kernel
theorem dX8_renderAisle_100 : decode cX8_renderAisle 100 = .ok (.goto 15, 3) := by decide +kernel
theorem dX8_renderAisle_103 : decode cX8_renderAisle 103 = .ok (.aload_n 0, 1) := by decide +kernel
theorem dX8_renderAisle_104 : decode cX8_renderAisle 104 = .ok (.getfield 40, 3) := by decide +kernel
theorem dX8_renderAisle_107 : decode cX8_renderAisle 107 = .ok (.aload_n 3, 1) := by decide +kernel
theorem dX8_renderAisle_108 : decode cX8_renderAisle 108 = .ok (.getfield 115, 3) := by decide +kernel
theorem dX8_renderAisle_111 : decode cX8_renderAisle 111 = .ok (.invokevirtual 240, 3) := by decide +kernel
theorem dX8_renderAisle_114 : decode cX8_renderAisle 114 = .ok (.pop, 1) := by decide +kernel
theorem dX8_renderAisle_115 : decode cX8_renderAisle 115 = .ok (.iinc 2 1, 3) := by decide +kernel
theorem dX8_renderAisle_118 : decode cX8_renderAisle 118 = .ok (.goto (-80), 3) := by decide +kernel
theorem dX8_renderAisle_121 : decode cX8_renderAisle 121 = .ok (.aload_n 0, 1) := by decide +kernel
theorem dX8_renderAisle_122 : decode cX8_renderAisle 122 = .ok (.getfield 40, 3) := by decide +kernel
theorem dX8_renderAisle_125 : decode cX8_renderAisle 125 = .ok (.invokevirtual 247, 3) := by decide +kernel
theorem dX8_renderAisle_128 : decode cX8_renderAisle 128 = .ok (.ireturn, 1) := by decide +kernel
theorem dX8_outputAt_0 : decode cX8_outputAt 0 = .ok (.iload_n 1, 1) := by decide +kernel
theorem dX8_outputAt_1 : decode cX8_outputAt 1 = .ok (.ifCond .lt 14, 3) := by decide +kernel
theorem dX8_outputAt_4 : decode cX8_outputAt 4 = .ok (.iload_n 1, 1) := by decide +kernel
theorem dX8_outputAt_5 : decode cX8_outputAt 5 = .ok (.aload_n 0, 1) := by decide +kernel
theorem dX8_outputAt_6 : decode cX8_outputAt 6 = .ok (.getfield 40, 3) := by decide +kernel
theorem dX8_outputAt_9 : decode cX8_outputAt 9 = .ok (.invokevirtual 247, 3) := by decide +kernel
theorem dX8_outputAt_12 : decode cX8_outputAt 12 = .ok (.if_icmp .lt 13, 3) := by decide +kernel
theorem dX8_outputAt_15 : decode cX8_outputAt 15 = .ok (.new 154, 3) := by decide +kernel
theorem dX8_outputAt_18 : decode cX8_outputAt 18 = .ok (.dup, 1) := by decide +kernel
theorem dX8_outputAt_19 : decode cX8_outputAt 19 = .ok (.ldc 253, 2) := by decide +kernel
theorem dX8_outputAt_21 : decode cX8_outputAt 21 = .ok (.invokespecial 158, 3) := by decide +kernel
theorem dX8_outputAt_24 : decode cX8_outputAt 24 = .ok (.athrow, 1) := by decide +kernel
theorem dX8_outputAt_25 : decode cX8_outputAt 25 = .ok (.aload_n 0, 1) := by decide +kernel
theorem dX8_outputAt_26 : decode cX8_outputAt 26 = .ok (.getfield 40, 3) := by decide +kernel
theorem dX8_outputAt_29 : decode cX8_outputAt 29 = .ok (.iload_n 1, 1) := by decide +kernel
theorem dX8_outputAt_30 : decode cX8_outputAt 30 = .ok (.invokevirtual 255, 3) := by decide +kernel
theorem dX8_outputAt_33 : decode cX8_outputAt 33 = .ok (.ireturn, 1) := by decide +kernel
theorem dX8_type_0 : decode cX8_type 0 = .ok (.iload_n 1, 1) := by decide +kernel
theorem dX8_type_1 : decode cX8_type 1 = .ok (.bipush 32, 2) := by decide +kernel
theorem dX8_type_3 : decode cX8_type 3 = .ok (.if_icmp .lt 9, 3) := by decide +kernel
theorem dX8_type_6 : decode cX8_type 6 = .ok (.iload_n 1, 1) := by decide +kernel
theorem dX8_type_7 : decode cX8_type 7 = .ok (.bipush 126, 2) := by decide +kernel
theorem dX8_type_9 : decode cX8_type 9 = .ok (.if_icmp .le 14, 3) := by decide +kernel
theorem dX8_type_12 : decode cX8_type 12 = .ok (.new 126, 3) := by decide +kernel
theorem dX8_type_15 : decode cX8_type 15 = .ok (.dup, 1) := by decide +kernel
theorem dX8_type_16 : decode cX8_type 16 = .ok (.ldc_w 259, 3) := by decide +kernel
theorem dX8_type_19 : decode cX8_type 19 = .ok (.invokespecial 130, 3) := by decide +kernel
theorem dX8_type_22 : decode cX8_type 22 = .ok (.athrow, 1) := by decide +kernel
theorem dX8_type_23 : decode cX8_type 23 = .ok (.aload_n 0, 1) := by decide +kernel
theorem dX8_type_24 : decode cX8_type 24 = .ok (.getfield 26, 3) := by decide +kernel
theorem dX8_type_27 : decode cX8_type 27 = .ok (.invokevirtual 261, 3) := by decide +kernel
theorem dX8_type_30 : decode cX8_type 30 = .ok (.ifCond .eq 14, 3) := by decide +kernel
theorem dX8_type_33 : decode cX8_type 33 = .ok (.new 264, 3) := by decide +kernel
theorem dX8_type_36 : decode cX8_type 36 = .ok (.dup, 1) := by decide +kernel
theorem dX8_type_37 : decode cX8_type 37 = .ok (.ldc_w 266, 3) := by decide +kernel
theorem dX8_type_40 : decode cX8_type 40 = .ok (.invokespecial 268, 3) := by decide +kernel
theorem dX8_type_43 : decode cX8_type 43 = .ok (.athrow, 1) := by decide +kernel
theorem dX8_type_44 : decode cX8_type 44 = .ok (.aload_n 0, 1) := by decide +kernel
theorem dX8_type_45 : decode cX8_type 45 = .ok (.getfield 26, 3) := by decide +kernel
theorem dX8_type_48 : decode cX8_type 48 = .ok (.iload_n 1, 1) := by decide +kernel
theorem dX8_type_49 : decode cX8_type 49 = .ok (.invokevirtual 269, 3) := by decide +kernel
theorem dX8_type_52 : decode cX8_type 52 = .ok (.ireturn, 1) := by decide +kernel
theorem dX8_runScript_0 : decode cX8_runScript 0 = .ok (.aload_n 0, 1) := by decide +kernel
theorem dX8_runScript_1 : decode cX8_runScript 1 = .ok (.getfield 26, 3) := by decide +kernel
theorem dX8_runScript_4 : decode cX8_runScript 4 = .ok (.invokevirtual 272, 3) := by decide +kernel
theorem dX8_runScript_7 : decode cX8_runScript 7 = .ok (.istore_n 1, 1) := by decide +kernel
theorem dX8_runScript_8 : decode cX8_runScript 8 = .ok (.iload_n 1, 1) := by decide +kernel
theorem dX8_runScript_9 : decode cX8_runScript 9 = .ok (.iconst (-1), 1) := by decide +kernel
theorem dX8_runScript_10 : decode cX8_runScript 10 = .ok (.if_icmp .ne 32, 3) := by decide +kernel
theorem dX8_runScript_13 : decode cX8_runScript 13 = .ok (.aload_n 0, 1) := by decide +kernel
theorem dX8_runScript_14 : decode cX8_runScript 14 = .ok (.aload_n 0, 1) := by decide +kernel
theorem dX8_runScript_15 : decode cX8_runScript 15 = .ok (.getfield 26, 3) := by decide +kernel
theorem dX8_runScript_18 : decode cX8_runScript 18 = .ok (.getfield 275, 3) := by decide +kernel
theorem dX8_runScript_21 : decode cX8_runScript 21 = .ok (.putfield 30, 3) := by decide +kernel
theorem dX8_runScript_24 : decode cX8_runScript 24 = .ok (.aload_n 0, 1) := by decide +kernel
theorem dX8_runScript_25 : decode cX8_runScript 25 = .ok (.getfield 26, 3) := by decide +kernel
theorem dX8_runScript_28 : decode cX8_runScript 28 = .ok (.invokevirtual 278, 3) := by decide +kernel
theorem dX8_runScript_31 : decode cX8_runScript 31 = .ok (.new 126, 3) := by decide +kernel
theorem dX8_runScript_34 : decode cX8_runScript 34 = .ok (.dup, 1) := by decide +kernel
theorem dX8_runScript_35 : decode cX8_runScript 35 = .ok (.ldc_w 281, 3) := by decide +kernel
theorem dX8_runScript_38 : decode cX8_runScript 38 = .ok (.invokespecial 130, 3) := by decide +kernel
theorem dX8_runScript_41 : decode cX8_runScript 41 = .ok (.athrow, 1) := by decide +kernel
theorem dX8_runScript_42 : decode cX8_runScript 42 = .ok (.aload_n 0, 1) := by decide +kernel
theorem dX8_runScript_43 : decode cX8_runScript 43 = .ok (.getfield 26, 3) := by decide +kernel
theorem dX8_runScript_46 : decode cX8_runScript 46 = .ok (.aload_n 0, 1) := by decide +kernel
theorem dX8_runScript_47 : decode cX8_runScript 47 = .ok (.getfield 10, 3) := by decide +kernel
theorem dX8_runScript_50 : decode cX8_runScript 50 = .ok (.invokevirtual 44, 3) := by decide +kernel
theorem dX8_runScript_53 : decode cX8_runScript 53 = .ok (.iload_n 1, 1) := by decide +kernel
theorem dX8_runScript_54 : decode cX8_runScript 54 = .ok (.invokevirtual 283, 3) := by decide +kernel
theorem dX8_runScript_57 : decode cX8_runScript 57 = .ok (.istore_n 2, 1) := by decide +kernel
theorem dX8_runScript_58 : decode cX8_runScript 58 = .ok (.aload_n 0, 1) := by decide +kernel
theorem dX8_runScript_59 : decode cX8_runScript 59 = .ok (.getfield 26, 3) := by decide +kernel
theorem dX8_runScript_62 : decode cX8_runScript 62 = .ok (.invokevirtual 278, 3) := by decide +kernel
theorem dX8_runScript_65 : decode cX8_runScript 65 = .ok (.iload_n 2, 1) := by decide +kernel
theorem dX8_runScript_66 : decode cX8_runScript 66 = .ok (.iload_n 1, 1) := by decide +kernel
theorem dX8_runScript_67 : decode cX8_runScript 67 = .ok (.if_icmp .ge 19, 3) := by decide +kernel
theorem dX8_runScript_70 : decode cX8_runScript 70 = .ok (.aload_n 0, 1) := by decide +kernel
theorem dX8_runScript_71 : decode cX8_runScript 71 = .ok (.iload_n 2, 1) := by decide +kernel
theorem dX8_runScript_72 : decode cX8_runScript 72 = .ok (.putfield 34, 3) := by decide +kernel
theorem dX8_runScript_75 : decode cX8_runScript 75 = .ok (.new 264, 3) := by decide +kernel
theorem dX8_runScript_78 : decode cX8_runScript 78 = .ok (.dup, 1) := by decide +kernel
theorem dX8_runScript_79 : decode cX8_runScript 79 = .ok (.ldc_w 287, 3) := by decide +kernel
theorem dX8_runScript_82 : decode cX8_runScript 82 = .ok (.invokespecial 268, 3) := by decide +kernel
theorem dX8_runScript_85 : decode cX8_runScript 85 = .ok (.athrow, 1) := by decide +kernel
theorem dX8_runScript_86 : decode cX8_runScript 86 = .ok (.aload_n 0, 1) := by decide +kernel
theorem dX8_runScript_87 : decode cX8_runScript 87 = .ok (.getfield 10, 3) := by decide +kernel
theorem dX8_runScript_90 : decode cX8_runScript 90 = .ok (.invokevirtual 289, 3) := by decide +kernel
theorem dX8_runScript_93 : decode cX8_runScript 93 = .ok (.iload_n 1, 1) := by decide +kernel
theorem dX8_runScript_94 : decode cX8_runScript 94 = .ok (.ireturn, 1) := by decide +kernel
theorem dX8_errorPosition_0 : decode cX8_errorPosition 0 = .ok (.aload_n 0, 1) := by decide +kernel
theorem dX8_errorPosition_1 : decode cX8_errorPosition 1 = .ok (.getfield 30, 3) := by decide +kernel
theorem dX8_errorPosition_4 : decode cX8_errorPosition 4 = .ok (.invokestatic 136, 3) := by decide +kernel
theorem dX8_errorPosition_7 : decode cX8_errorPosition 7 = .ok (.ireturn, 1) := by decide +kernel
theorem dX8_failedCommand_0 : decode cX8_failedCommand 0 = .ok (.aload_n 0, 1) := by decide +kernel
theorem dX8_failedCommand_1 : decode cX8_failedCommand 1 = .ok (.getfield 34, 3) := by decide +kernel
theorem dX8_failedCommand_4 : decode cX8_failedCommand 4 = .ok (.invokestatic 136, 3) := by decide +kernel
theorem dX8_failedCommand_7 : decode cX8_failedCommand 7 = .ok (.ireturn, 1) := by decide +kernel
theorem dX8_undo_0 : decode cX8_undo 0 = .ok (.aload_n 0, 1) := by decide +kernel
theorem dX8_undo_1 : decode cX8_undo 1 = .ok (.getfield 10, 3) := by decide +kernel
theorem dX8_undo_4 : decode cX8_undo 4 = .ok (.invokevirtual 292, 3) := by decide +kernel
theorem dX8_undo_7 : decode cX8_undo 7 = .ok (.invokestatic 136, 3) := by decide +kernel
theorem dX8_undo_10 : decode cX8_undo 10 = .ok (.ireturn, 1) := by decide +kernel
theorem dX8_save_0 : decode cX8_save 0 = .ok (.aload_n 0, 1) := by decide +kernel
theorem dX8_save_1 : decode cX8_save 1 = .ok (.getfield 19, 3) := by decide +kernel
theorem dX8_save_4 : decode cX8_save 4 = .ok (.aload_n 0, 1) := by decide +kernel
theorem dX8_save_5 : decode cX8_save 5 = .ok (.invokevirtual 87, 3) := by decide +kernel
theorem dX8_save_8 : decode cX8_save 8 = .ok (.invokevirtual 295, 3) := by decide +kernel
theorem dX8_save_11 : decode cX8_save 11 = .ok (.aload_n 0, 1) := by decide +kernel
theorem dX8_save_12 : decode cX8_save 12 = .ok (.iconst 1, 1) := by decide +kernel
theorem dX8_save_13 : decode cX8_save 13 = .ok (.putfield 299, 3) := by decide +kernel
theorem dX8_save_16 : decode cX8_save 16 = .ok (.aload_n 0, 1) := by decide +kernel
theorem dX8_save_17 : decode cX8_save 17 = .ok (.getfield 19, 3) := by decide +kernel
theorem dX8_save_20 : decode cX8_save 20 = .ok (.getfield 94, 3) := by decide +kernel
theorem dX8_save_23 : decode cX8_save 23 = .ok (.getfield 98, 3) := by decide +kernel
theorem dX8_save_26 : decode cX8_save 26 = .ok (.ireturn, 1) := by decide +kernel
theorem dX8_restore_0 : decode cX8_restore 0 = .ok (.aload_n 0, 1) := by decide +kernel
theorem dX8_restore_1 : decode cX8_restore 1 = .ok (.getfield 299, 3) := by decide +kernel
theorem dX8_restore_4 : decode cX8_restore 4 = .ok (.ifCond .ne 14, 3) := by decide +kernel
theorem dX8_restore_7 : decode cX8_restore 7 = .ok (.new 264, 3) := by decide +kernel
theorem dX8_restore_10 : decode cX8_restore 10 = .ok (.dup, 1) := by decide +kernel
theorem dX8_restore_11 : decode cX8_restore 11 = .ok (.ldc_w 303, 3) := by decide +kernel
theorem dX8_restore_14 : decode cX8_restore 14 = .ok (.invokespecial 268, 3) := by decide +kernel
theorem dX8_restore_17 : decode cX8_restore 17 = .ok (.athrow, 1) := by decide +kernel
theorem dX8_restore_18 : decode cX8_restore 18 = .ok (.aload_n 0, 1) := by decide +kernel
theorem dX8_restore_19 : decode cX8_restore 19 = .ok (.getfield 10, 3) := by decide +kernel
theorem dX8_restore_22 : decode cX8_restore 22 = .ok (.aload_n 0, 1) := by decide +kernel
theorem dX8_restore_23 : decode cX8_restore 23 = .ok (.getfield 19, 3) := by decide +kernel
theorem dX8_restore_26 : decode cX8_restore 26 = .ok (.invokevirtual 305, 3) := by decide +kernel
theorem dX8_restore_29 : decode cX8_restore 29 = .ok (.aload_n 0, 1) := by decide +kernel
theorem dX8_restore_30 : decode cX8_restore 30 = .ok (.getfield 19, 3) := by decide +kernel
theorem dX8_restore_33 : decode cX8_restore 33 = .ok (.getfield 94, 3) := by decide +kernel
theorem dX8_restore_36 : decode cX8_restore 36 = .ok (.getfield 98, 3) := by decide +kernel
theorem dX8_restore_39 : decode cX8_restore 39 = .ok (.ireturn, 1) := by decide +kernel
theorem dX8_now_0 : decode cX8_now 0 = .ok (.aload_n 0, 1) := by decide +kernel
theorem dX8_now_1 : decode cX8_now 1 = .ok (.getfield 10, 3) := by decide +kernel
theorem dX8_now_4 : decode cX8_now 4 = .ok (.invokevirtual 308, 3) := by decide +kernel
theorem dX8_now_7 : decode cX8_now 7 = .ok (.areturn, 1) := by decide +kernel
theorem dX8_keepUnlessRefused_0 : decode cX8_keepUnlessRefused 0 = .ok (.iload_n 1, 1) := by decide +kernel
theorem dX8_keepUnlessRefused_1 : decode cX8_keepUnlessRefused 1 = .ok (.invokestatic 311, 3) := by decide +kernel
theorem dX8_keepUnlessRefused_4 : decode cX8_keepUnlessRefused 4 = .ok (.aload_n 0, 1) := by decide +kernel
theorem dX8_keepUnlessRefused_5 : decode cX8_keepUnlessRefused 5 = .ok (.getfield 10, 3) := by decide +kernel
theorem dX8_keepUnlessRefused_8 : decode cX8_keepUnlessRefused 8 = .ok (.invokevirtual 289, 3) := by decide +kernel
theorem dX8_keepUnlessRefused_11 : decode cX8_keepUnlessRefused 11 = .ok (.iload_n 1, 1) := by decide +kernel
theorem dX8_keepUnlessRefused_12 : decode cX8_keepUnlessRefused 12 = .ok (.ireturn, 1) := by decide +kernel
theorem dX8_throwIfRefused_0 : decode cX8_throwIfRefused 0 = .ok (.iload_n 0, 1) := by decide +kernel
theorem dX8_throwIfRefused_1 : decode cX8_throwIfRefused 1 = .ok (.tableswitch 75 (-4) (-1) #[64, 53, 42, 31], 31) := by decide +kernel
theorem dX8_throwIfRefused_32 : decode cX8_throwIfRefused 32 = .ok (.new 154, 3) := by decide +kernel
theorem dX8_throwIfRefused_35 : decode cX8_throwIfRefused 35 = .ok (.dup, 1) := by decide +kernel
theorem dX8_throwIfRefused_36 : decode cX8_throwIfRefused 36 = .ok (.ldc_w 314, 3) := by decide +kernel
theorem dX8_throwIfRefused_39 : decode cX8_throwIfRefused 39 = .ok (.invokespecial 158, 3) := by decide +kernel
theorem dX8_throwIfRefused_42 : decode cX8_throwIfRefused 42 = .ok (.athrow, 1) := by decide +kernel
theorem dX8_throwIfRefused_43 : decode cX8_throwIfRefused 43 = .ok (.new 126, 3) := by decide +kernel
theorem dX8_throwIfRefused_46 : decode cX8_throwIfRefused 46 = .ok (.dup, 1) := by decide +kernel
theorem dX8_throwIfRefused_47 : decode cX8_throwIfRefused 47 = .ok (.ldc_w 316, 3) := by decide +kernel
theorem dX8_throwIfRefused_50 : decode cX8_throwIfRefused 50 = .ok (.invokespecial 130, 3) := by decide +kernel
theorem dX8_throwIfRefused_53 : decode cX8_throwIfRefused 53 = .ok (.athrow, 1) := by decide +kernel
theorem dX8_throwIfRefused_54 : decode cX8_throwIfRefused 54 = .ok (.new 264, 3) := by decide +kernel
theorem dX8_throwIfRefused_57 : decode cX8_throwIfRefused 57 = .ok (.dup, 1) := by decide +kernel
theorem dX8_throwIfRefused_58 : decode cX8_throwIfRefused 58 = .ok (.ldc_w 318, 3) := by decide +kernel
theorem dX8_throwIfRefused_61 : decode cX8_throwIfRefused 61 = .ok (.invokespecial 268, 3) := by decide +kernel
theorem dX8_throwIfRefused_64 : decode cX8_throwIfRefused 64 = .ok (.athrow, 1) := by decide +kernel
theorem dX8_throwIfRefused_65 : decode cX8_throwIfRefused 65 = .ok (.new 320, 3) := by decide +kernel
theorem dX8_throwIfRefused_68 : decode cX8_throwIfRefused 68 = .ok (.dup, 1) := by decide +kernel
theorem dX8_throwIfRefused_69 : decode cX8_throwIfRefused 69 = .ok (.ldc_w 322, 3) := by decide +kernel
theorem dX8_throwIfRefused_72 : decode cX8_throwIfRefused 72 = .ok (.invokespecial 324, 3) := by decide +kernel
theorem dX8_throwIfRefused_75 : decode cX8_throwIfRefused 75 = .ok (.athrow, 1) := by decide +kernel
theorem dX8_throwIfRefused_76 : decode cX8_throwIfRefused 76 = .ok (.return_, 1) := by decide +kernel
theorem dX8_found_0 : decode cX8_found 0 = .ok (.iload_n 0, 1) := by decide +kernel
theorem dX8_found_1 : decode cX8_found 1 = .ok (.iconst (-1), 1) := by decide +kernel
theorem dX8_found_2 : decode cX8_found 2 = .ok (.if_icmp .ne 14, 3) := by decide +kernel
theorem dX8_found_5 : decode cX8_found 5 = .ok (.new 325, 3) := by decide +kernel
theorem dX8_found_8 : decode cX8_found 8 = .ok (.dup, 1) := by decide +kernel
theorem dX8_found_9 : decode cX8_found 9 = .ok (.ldc_w 327, 3) := by decide +kernel
theorem dX8_found_12 : decode cX8_found 12 = .ok (.invokespecial 329, 3) := by decide +kernel
theorem dX8_found_15 : decode cX8_found 15 = .ok (.athrow, 1) := by decide +kernel
theorem dX8_found_16 : decode cX8_found 16 = .ok (.iload_n 0, 1) := by decide +kernel
theorem dX8_found_17 : decode cX8_found 17 = .ok (.ireturn, 1) := by decide +kernel
theorem dX8_requireAisle_0 : decode cX8_requireAisle 0 = .ok (.iload_n 0, 1) := by decide +kernel
theorem dX8_requireAisle_1 : decode cX8_requireAisle 1 = .ok (.invokestatic 330, 3) := by decide +kernel
theorem dX8_requireAisle_4 : decode cX8_requireAisle 4 = .ok (.ifCond .ne 14, 3) := by decide +kernel
theorem dX8_requireAisle_7 : decode cX8_requireAisle 7 = .ok (.new 154, 3) := by decide +kernel
theorem dX8_requireAisle_10 : decode cX8_requireAisle 10 = .ok (.dup, 1) := by decide +kernel
theorem dX8_requireAisle_11 : decode cX8_requireAisle 11 = .ok (.ldc_w 333, 3) := by decide +kernel
theorem dX8_requireAisle_14 : decode cX8_requireAisle 14 = .ok (.invokespecial 158, 3) := by decide +kernel
theorem dX8_requireAisle_17 : decode cX8_requireAisle 17 = .ok (.athrow, 1) := by decide +kernel
theorem dX8_requireAisle_18 : decode cX8_requireAisle 18 = .ok (.return_, 1) := by decide +kernel
theorem dX8_existingRack_0 : decode cX8_existingRack 0 = .ok (.aload_n 0, 1) := by decide +kernel
theorem dX8_existingRack_1 : decode cX8_existingRack 1 = .ok (.invokevirtual 87, 3) := by decide +kernel
theorem dX8_existingRack_4 : decode cX8_existingRack 4 = .ok (.getfield 94, 3) := by decide +kernel
theorem dX8_existingRack_7 : decode cX8_existingRack 7 = .ok (.iload_n 1, 1) := by decide +kernel
theorem dX8_existingRack_8 : decode cX8_existingRack 8 = .ok (.invokevirtual 250, 3) := by decide +kernel
theorem dX8_existingRack_11 : decode cX8_existingRack 11 = .ok (.astore_n 2, 1) := by decide +kernel
theorem dX8_existingRack_12 : decode cX8_existingRack 12 = .ok (.aload_n 2, 1) := by decide +kernel
theorem dX8_existingRack_13 : decode cX8_existingRack 13 = .ok (.ifnonnull 14, 3) := by decide +kernel
theorem dX8_existingRack_16 : decode cX8_existingRack 16 = .ok (.new 154, 3) := by decide +kernel
theorem dX8_existingRack_19 : decode cX8_existingRack 19 = .ok (.dup, 1) := by decide +kernel
theorem dX8_existingRack_20 : decode cX8_existingRack 20 = .ok (.ldc_w 335, 3) := by decide +kernel
theorem dX8_existingRack_23 : decode cX8_existingRack 23 = .ok (.invokespecial 158, 3) := by decide +kernel
theorem dX8_existingRack_26 : decode cX8_existingRack 26 = .ok (.athrow, 1) := by decide +kernel
theorem dX8_existingRack_27 : decode cX8_existingRack 27 = .ok (.aload_n 2, 1) := by decide +kernel
theorem dX8_existingRack_28 : decode cX8_existingRack 28 = .ok (.areturn, 1) := by decide +kernel
theorem dX8_requireRacks_0 : decode cX8_requireRacks 0 = .ok (.aload_n 0, 1) := by decide +kernel
theorem dX8_requireRacks_1 : decode cX8_requireRacks 1 = .ok (.invokevirtual 87, 3) := by decide +kernel
theorem dX8_requireRacks_4 : decode cX8_requireRacks 4 = .ok (.getfield 94, 3) := by decide +kernel
theorem dX8_requireRacks_7 : decode cX8_requireRacks 7 = .ok (.getfield 98, 3) := by decide +kernel
theorem dX8_requireRacks_10 : decode cX8_requireRacks 10 = .ok (.ifCond .ne 14, 3) := by decide +kernel
theorem dX8_requireRacks_13 : decode cX8_requireRacks 13 = .ok (.new 337, 3) := by decide +kernel
theorem dX8_requireRacks_16 : decode cX8_requireRacks 16 = .ok (.dup, 1) := by decide +kernel
theorem dX8_requireRacks_17 : decode cX8_requireRacks 17 = .ok (.ldc_w 339, 3) := by decide +kernel
theorem dX8_requireRacks_20 : decode cX8_requireRacks 20 = .ok (.invokespecial 341, 3) := by decide +kernel
theorem dX8_requireRacks_23 : decode cX8_requireRacks 23 = .ok (.athrow, 1) := by decide +kernel
theorem dX8_requireRacks_24 : decode cX8_requireRacks 24 = .ok (.return_, 1) := by decide +kernel
theorem dX8_isBetween_0 : decode cX8_isBetween 0 = .ok (.iload_n 0, 1) := by decide +kernel
theorem dX8_isBetween_1 : decode cX8_isBetween 1 = .ok (.iload_n 1, 1) := by decide +kernel
theorem dX8_isBetween_2 : decode cX8_isBetween 2 = .ok (.if_icmp .lt 12, 3) := by decide +kernel
theorem dX8_isBetween_5 : decode cX8_isBetween 5 = .ok (.iload_n 0, 1) := by decide +kernel
theorem dX8_isBetween_6 : decode cX8_isBetween 6 = .ok (.iload_n 2, 1) := by decide +kernel
theorem dX8_isBetween_7 : decode cX8_isBetween 7 = .ok (.if_icmp .gt 7, 3) := by decide +kernel
theorem dX8_isBetween_10 : decode cX8_isBetween 10 = .ok (.iconst 1, 1) := by decide +kernel
theorem dX8_isBetween_11 : decode cX8_isBetween 11 = .ok (.goto 4, 3) := by decide +kernel
theorem dX8_isBetween_14 : decode cX8_isBetween 14 = .ok (.iconst 0, 1) := by decide +kernel
theorem dX8_isBetween_15 : decode cX8_isBetween 15 = .ok (.ireturn, 1) := by decide +kernel
theorem dX8_isAisle_0 : decode cX8_isAisle 0 = .ok (.iload_n 0, 1) := by decide +kernel
theorem dX8_isAisle_1 : decode cX8_isAisle 1 = .ok (.iconst 0, 1) := by decide +kernel
theorem dX8_isAisle_2 : decode cX8_isAisle 2 = .ok (.iconst 3, 1) := by decide +kernel
theorem dX8_isAisle_3 : decode cX8_isAisle 3 = .ok (.invokestatic 342, 3) := by decide +kernel
theorem dX8_isAisle_6 : decode cX8_isAisle 6 = .ok (.ireturn, 1) := by decide +kernel
theorem dX8_isPlace_0 : decode cX8_isPlace 0 = .ok (.iload_n 0, 1) := by decide +kernel
theorem dX8_isPlace_1 : decode cX8_isPlace 1 = .ok (.iconst 0, 1) := by decide +kernel
theorem dX8_isPlace_2 : decode cX8_isPlace 2 = .ok (.iconst 5, 1) := by decide +kernel
theorem dX8_isPlace_3 : decode cX8_isPlace 3 = .ok (.invokestatic 342, 3) := by decide +kernel
theorem dX8_isPlace_6 : decode cX8_isPlace 6 = .ok (.ireturn, 1) := by decide +kernel
theorem dX8_isLoad_0 : decode cX8_isLoad 0 = .ok (.iload_n 0, 1) := by decide +kernel
theorem dX8_isLoad_1 : decode cX8_isLoad 1 = .ok (.iconst 0, 1) := by decide +kernel
theorem dX8_isLoad_2 : decode cX8_isLoad 2 = .ok (.bipush 20, 2) := by decide +kernel
theorem dX8_isLoad_4 : decode cX8_isLoad 4 = .ok (.invokestatic 342, 3) := by decide +kernel
theorem dX8_isLoad_7 : decode cX8_isLoad 7 = .ok (.ireturn, 1) := by decide +kernel
theorem dX8_isSpeed_0 : decode cX8_isSpeed 0 = .ok (.iload_n 0, 1) := by decide +kernel
theorem dX8_isSpeed_1 : decode cX8_isSpeed 1 = .ok (.iconst 0, 1) := by decide +kernel
theorem dX8_isSpeed_2 : decode cX8_isSpeed 2 = .ok (.bipush 10, 2) := by decide +kernel
theorem dX8_isSpeed_4 : decode cX8_isSpeed 4 = .ok (.invokestatic 342, 3) := by decide +kernel
theorem dX8_isSpeed_7 : decode cX8_isSpeed 7 = .ok (.ireturn, 1) := by decide +kernel
theorem dX8_isCurvePoint_0 : decode cX8_isCurvePoint 0 = .ok (.iload_n 0, 1) := by decide +kernel
theorem dX8_isCurvePoint_1 : decode cX8_isCurvePoint 1 = .ok (.iconst 0, 1) := by decide +kernel
theorem dX8_isCurvePoint_2 : decode cX8_isCurvePoint 2 = .ok (.iconst 2, 1) := by decide +kernel
theorem dX8_isCurvePoint_3 : decode cX8_isCurvePoint 3 = .ok (.invokestatic 342, 3) := by decide +kernel
theorem dX8_isCurvePoint_6 : decode cX8_isCurvePoint 6 = .ok (.ireturn, 1) := by decide +kernel
theorem dX8_at_0 : decode cX8_at 0 = .ok (.iload_n 1, 1) := by decide +kernel
theorem dX8_at_1 : decode cX8_at 1 = .ok (.ifCond .lt 15, 3) := by decide +kernel
theorem dX8_at_4 : decode cX8_at 4 = .ok (.iload_n 1, 1) := by decide +kernel
theorem dX8_at_5 : decode cX8_at 5 = .ok (.aload_n 0, 1) := by decide +kernel
theorem dX8_at_6 : decode cX8_at 6 = .ok (.arraylength, 1) := by decide +kernel
theorem dX8_at_7 : decode cX8_at 7 = .ok (.if_icmp .ge 9, 3) := by decide +kernel
theorem dX8_at_10 : decode cX8_at 10 = .ok (.aload_n 0, 1) := by decide +kernel
theorem dX8_at_11 : decode cX8_at 11 = .ok (.iload_n 1, 1) := by decide +kernel
theorem dX8_at_12 : decode cX8_at 12 = .ok (.iaload, 1) := by decide +kernel
theorem dX8_at_13 : decode cX8_at 13 = .ok (.goto 4, 3) := by decide +kernel
theorem dX8_at_16 : decode cX8_at 16 = .ok (.iconst 0, 1) := by decide +kernel
theorem dX8_at_17 : decode cX8_at 17 = .ok (.ireturn, 1) := by decide +kernel
theorem dX8_put_0 : decode cX8_put 0 = .ok (.iload_n 1, 1) := by decide +kernel
theorem dX8_put_1 : decode cX8_put 1 = .ok (.ifCond .lt 13, 3) := by decide +kernel
theorem dX8_put_4 : decode cX8_put 4 = .ok (.iload_n 1, 1) := by decide +kernel
theorem dX8_put_5 : decode cX8_put 5 = .ok (.aload_n 0, 1) := by decide +kernel
theorem dX8_put_6 : decode cX8_put 6 = .ok (.arraylength, 1) := by decide +kernel
theorem dX8_put_7 : decode cX8_put 7 = .ok (.if_icmp .ge 7, 3) := by decide +kernel
theorem dX8_put_10 : decode cX8_put 10 = .ok (.aload_n 0, 1) := by decide +kernel
theorem dX8_put_11 : decode cX8_put 11 = .ok (.iload_n 1, 1) := by decide +kernel
theorem dX8_put_12 : decode cX8_put 12 = .ok (.iload_n 2, 1) := by decide +kernel
theorem dX8_put_13 : decode cX8_put 13 = .ok (.iastore, 1) := by decide +kernel
theorem dX8_put_14 : decode cX8_put 14 = .ok (.return_, 1) := by decide +kernel
theorem dX8_copy_0 : decode cX8_copy 0 = .ok (.aload_n 0, 1) := by decide +kernel
theorem dX8_copy_1 : decode cX8_copy 1 = .ok (.iconst 0, 1) := by decide +kernel
theorem dX8_copy_2 : decode cX8_copy 2 = .ok (.aload_n 1, 1) := by decide +kernel
theorem dX8_copy_3 : decode cX8_copy 3 = .ok (.iconst 0, 1) := by decide +kernel
theorem dX8_copy_4 : decode cX8_copy 4 = .ok (.aload_n 0, 1) := by decide +kernel
theorem dX8_copy_5 : decode cX8_copy 5 = .ok (.arraylength, 1) := by decide +kernel
theorem dX8_copy_6 : decode cX8_copy 6 = .ok (.aload_n 1, 1) := by decide +kernel
theorem dX8_copy_7 : decode cX8_copy 7 = .ok (.arraylength, 1) := by decide +kernel
theorem dX8_copy_8 : decode cX8_copy 8 = .ok (.invokestatic 346, 3) := by decide +kernel
theorem dX8_copy_11 : decode cX8_copy 11 = .ok (.invokestatic 351, 3) := by decide +kernel
theorem dX8_copy_14 : decode cX8_copy 14 = .ok (.return_, 1) := by decide +kernel
theorem dJ5_init_d00df_0 : decode cJ5_init_d00df 0 = .ok (.aload_n 0, 1) := by decide +kernel
theorem dJ5_init_d00df_1 : decode cJ5_init_d00df 1 = .ok (.invokespecial 3, 3) := by decide +kernel
theorem dJ5_init_d00df_4 : decode cJ5_init_d00df 4 = .ok (.getstatic 18, 3) := by decide +kernel
theorem dJ5_init_d00df_7 : decode cJ5_init_d00df 7 = .ok (.ifCond .eq 18, 3) := by decide +kernel
theorem dJ5_init_d00df_10 : decode cJ5_init_d00df 10 = .ok (.aload_n 0, 1) := by decide +kernel
theorem dJ5_init_d00df_11 : decode cJ5_init_d00df 11 = .ok (.iload_n 1, 1) := by decide +kernel
theorem dJ5_init_d00df_12 : decode cJ5_init_d00df 12 = .ok (.newarray .byte, 2) := by decide +kernel
theorem dJ5_init_d00df_14 : decode cJ5_init_d00df 14 = .ok (.putfield 15, 3) := by decide +kernel
theorem dJ5_init_d00df_17 : decode cJ5_init_d00df 17 = .ok (.aload_n 0, 1) := by decide +kernel
theorem dJ5_init_d00df_18 : decode cJ5_init_d00df 18 = .ok (.iconst 0, 1) := by decide +kernel
theorem dJ5_init_d00df_19 : decode cJ5_init_d00df 19 = .ok (.putfield 22, 3) := by decide +kernel
theorem dJ5_init_d00df_22 : decode cJ5_init_d00df 22 = .ok (.goto 16, 3) := by decide +kernel
theorem dJ5_init_d00df_25 : decode cJ5_init_d00df 25 = .ok (.aload_n 0, 1) := by decide +kernel
theorem dJ5_init_d00df_26 : decode cJ5_init_d00df 26 = .ok (.iload_n 1, 1) := by decide +kernel
theorem dJ5_init_d00df_27 : decode cJ5_init_d00df 27 = .ok (.invokestatic 26, 3) := by decide +kernel
theorem dJ5_init_d00df_30 : decode cJ5_init_d00df 30 = .ok (.putfield 15, 3) := by decide +kernel
theorem dJ5_init_d00df_33 : decode cJ5_init_d00df 33 = .ok (.aload_n 0, 1) := by decide +kernel
theorem dJ5_init_d00df_34 : decode cJ5_init_d00df 34 = .ok (.iconst 1, 1) := by decide +kernel
theorem dJ5_init_d00df_35 : decode cJ5_init_d00df 35 = .ok (.putfield 22, 3) := by decide +kernel
theorem dJ5_init_d00df_38 : decode cJ5_init_d00df 38 = .ok (.return_, 1) := by decide +kernel
theorem dJ5_length_8abf5_0 : decode cJ5_length_8abf5 0 = .ok (.aload_n 0, 1) := by decide +kernel
theorem dJ5_length_8abf5_1 : decode cJ5_length_8abf5 1 = .ok (.getfield 79, 3) := by decide +kernel
theorem dJ5_length_8abf5_4 : decode cJ5_length_8abf5 4 = .ok (.ireturn, 1) := by decide +kernel
theorem dJ5_ensureCapacityInternal_d00df_0 : decode cJ5_ensureCapacityInternal_d00df 0 = .ok (.aload_n 0, 1) := by decide +kernel
theorem dJ5_ensureCapacityInternal_d00df_1 : decode cJ5_ensureCapacityInternal_d00df 1 = .ok (.getfield 15, 3) := by decide +kernel
theorem dJ5_ensureCapacityInternal_d00df_4 : decode cJ5_ensureCapacityInternal_d00df 4 = .ok (.arraylength, 1) := by decide +kernel
theorem dJ5_ensureCapacityInternal_d00df_5 : decode cJ5_ensureCapacityInternal_d00df 5 = .ok (.aload_n 0, 1) := by decide +kernel
theorem dJ5_ensureCapacityInternal_d00df_6 : decode cJ5_ensureCapacityInternal_d00df 6 = .ok (.getfield 22, 3) := by decide +kernel
theorem dJ5_ensureCapacityInternal_d00df_9 : decode cJ5_ensureCapacityInternal_d00df 9 = .ok (.ishr, 1) := by decide +kernel
theorem dJ5_ensureCapacityInternal_d00df_10 : decode cJ5_ensureCapacityInternal_d00df 10 = .ok (.istore_n 2, 1) := by decide +kernel
theorem dJ5_ensureCapacityInternal_d00df_11 : decode cJ5_ensureCapacityInternal_d00df 11 = .ok (.iload_n 1, 1) := by decide +kernel
theorem dJ5_ensureCapacityInternal_d00df_12 : decode cJ5_ensureCapacityInternal_d00df 12 = .ok (.iload_n 2, 1) := by decide +kernel
theorem dJ5_ensureCapacityInternal_d00df_13 : decode cJ5_ensureCapacityInternal_d00df 13 = .ok (.isub, 1) := by decide +kernel
theorem dJ5_ensureCapacityInternal_d00df_14 : decode cJ5_ensureCapacityInternal_d00df 14 = .ok (.ifCond .le 24, 3) := by decide +kernel
theorem dJ5_ensureCapacityInternal_d00df_17 : decode cJ5_ensureCapacityInternal_d00df 17 = .ok (.aload_n 0, 1) := by decide +kernel
theorem dJ5_ensureCapacityInternal_d00df_18 : decode cJ5_ensureCapacityInternal_d00df 18 = .ok (.aload_n 0, 1) := by decide +kernel
theorem dJ5_ensureCapacityInternal_d00df_19 : decode cJ5_ensureCapacityInternal_d00df 19 = .ok (.getfield 15, 3) := by decide +kernel
theorem dJ5_ensureCapacityInternal_d00df_22 : decode cJ5_ensureCapacityInternal_d00df 22 = .ok (.aload_n 0, 1) := by decide +kernel
theorem dJ5_ensureCapacityInternal_d00df_23 : decode cJ5_ensureCapacityInternal_d00df 23 = .ok (.iload_n 1, 1) := by decide +kernel
theorem dJ5_ensureCapacityInternal_d00df_24 : decode cJ5_ensureCapacityInternal_d00df 24 = .ok (.invokevirtual 104, 3) := by decide +kernel
theorem dJ5_ensureCapacityInternal_d00df_27 : decode cJ5_ensureCapacityInternal_d00df 27 = .ok (.aload_n 0, 1) := by decide +kernel
theorem dJ5_ensureCapacityInternal_d00df_28 : decode cJ5_ensureCapacityInternal_d00df 28 = .ok (.getfield 22, 3) := by decide +kernel
theorem dJ5_ensureCapacityInternal_d00df_31 : decode cJ5_ensureCapacityInternal_d00df 31 = .ok (.ishl, 1) := by decide +kernel
theorem dJ5_ensureCapacityInternal_d00df_32 : decode cJ5_ensureCapacityInternal_d00df 32 = .ok (.invokestatic 108, 3) := by decide +kernel
theorem dJ5_ensureCapacityInternal_d00df_35 : decode cJ5_ensureCapacityInternal_d00df 35 = .ok (.putfield 15, 3) := by decide +kernel
theorem dJ5_ensureCapacityInternal_d00df_38 : decode cJ5_ensureCapacityInternal_d00df 38 = .ok (.return_, 1) := by decide +kernel
theorem dJ5_newCapacity_0f7a4_0 : decode cJ5_newCapacity_0f7a4 0 = .ok (.aload_n 0, 1) := by decide +kernel
theorem dJ5_newCapacity_0f7a4_1 : decode cJ5_newCapacity_0f7a4 1 = .ok (.getfield 15, 3) := by decide +kernel
theorem dJ5_newCapacity_0f7a4_4 : decode cJ5_newCapacity_0f7a4 4 = .ok (.arraylength, 1) := by decide +kernel
theorem dJ5_newCapacity_0f7a4_5 : decode cJ5_newCapacity_0f7a4 5 = .ok (.istore_n 2, 1) := by decide +kernel
theorem dJ5_newCapacity_0f7a4_6 : decode cJ5_newCapacity_0f7a4 6 = .ok (.iload_n 1, 1) := by decide +kernel
theorem dJ5_newCapacity_0f7a4_7 : decode cJ5_newCapacity_0f7a4 7 = .ok (.aload_n 0, 1) := by decide +kernel
theorem dJ5_newCapacity_0f7a4_8 : decode cJ5_newCapacity_0f7a4 8 = .ok (.getfield 22, 3) := by decide +kernel
theorem dJ5_newCapacity_0f7a4_11 : decode cJ5_newCapacity_0f7a4 11 = .ok (.ishl, 1) := by decide +kernel
theorem dJ5_newCapacity_0f7a4_12 : decode cJ5_newCapacity_0f7a4 12 = .ok (.istore_n 3, 1) := by decide +kernel
theorem dJ5_newCapacity_0f7a4_13 : decode cJ5_newCapacity_0f7a4 13 = .ok (.iload_n 3, 1) := by decide +kernel
theorem dJ5_newCapacity_0f7a4_14 : decode cJ5_newCapacity_0f7a4 14 = .ok (.iload_n 2, 1) := by decide +kernel
theorem dJ5_newCapacity_0f7a4_15 : decode cJ5_newCapacity_0f7a4 15 = .ok (.isub, 1) := by decide +kernel
theorem dJ5_newCapacity_0f7a4_16 : decode cJ5_newCapacity_0f7a4 16 = .ok (.istore 4, 2) := by decide +kernel
theorem dJ5_newCapacity_0f7a4_18 : decode cJ5_newCapacity_0f7a4 18 = .ok (.iload_n 2, 1) := by decide +kernel
theorem dJ5_newCapacity_0f7a4_19 : decode cJ5_newCapacity_0f7a4 19 = .ok (.iload 4, 2) := by decide +kernel
theorem dJ5_newCapacity_0f7a4_21 : decode cJ5_newCapacity_0f7a4 21 = .ok (.iload_n 2, 1) := by decide +kernel
theorem dJ5_newCapacity_0f7a4_22 : decode cJ5_newCapacity_0f7a4 22 = .ok (.iconst 2, 1) := by decide +kernel
theorem dJ5_newCapacity_0f7a4_23 : decode cJ5_newCapacity_0f7a4 23 = .ok (.aload_n 0, 1) := by decide +kernel
theorem dJ5_newCapacity_0f7a4_24 : decode cJ5_newCapacity_0f7a4 24 = .ok (.getfield 22, 3) := by decide +kernel
theorem dJ5_newCapacity_0f7a4_27 : decode cJ5_newCapacity_0f7a4 27 = .ok (.ishl, 1) := by decide +kernel
theorem dJ5_newCapacity_0f7a4_28 : decode cJ5_newCapacity_0f7a4 28 = .ok (.iadd, 1) := by decide +kernel
theorem dJ5_newCapacity_0f7a4_29 : decode cJ5_newCapacity_0f7a4 29 = .ok (.invokestatic 114, 3) := by decide +kernel
theorem dJ5_newCapacity_0f7a4_32 : decode cJ5_newCapacity_0f7a4 32 = .ok (.istore 5, 2) := by decide +kernel
theorem dJ5_newCapacity_0f7a4_34 : decode cJ5_newCapacity_0f7a4 34 = .ok (.iload 5, 2) := by decide +kernel
theorem dJ5_newCapacity_0f7a4_36 : decode cJ5_newCapacity_0f7a4 36 = .ok (.ldc 39, 2) := by decide +kernel
theorem dJ5_newCapacity_0f7a4_38 : decode cJ5_newCapacity_0f7a4 38 = .ok (.if_icmp .ne 13, 3) := by decide +kernel
theorem dJ5_newCapacity_0f7a4_41 : decode cJ5_newCapacity_0f7a4 41 = .ok (.new 120, 3) := by decide +kernel
theorem dJ5_newCapacity_0f7a4_44 : decode cJ5_newCapacity_0f7a4 44 = .ok (.dup, 1) := by decide +kernel
theorem dJ5_newCapacity_0f7a4_45 : decode cJ5_newCapacity_0f7a4 45 = .ok (.ldc 122, 2) := by decide +kernel
theorem dJ5_newCapacity_0f7a4_47 : decode cJ5_newCapacity_0f7a4 47 = .ok (.invokespecial 124, 3) := by decide +kernel
theorem dJ5_newCapacity_0f7a4_50 : decode cJ5_newCapacity_0f7a4 50 = .ok (.athrow, 1) := by decide +kernel
theorem dJ5_newCapacity_0f7a4_51 : decode cJ5_newCapacity_0f7a4 51 = .ok (.iload 5, 2) := by decide +kernel
theorem dJ5_newCapacity_0f7a4_53 : decode cJ5_newCapacity_0f7a4 53 = .ok (.aload_n 0, 1) := by decide +kernel
theorem dJ5_newCapacity_0f7a4_54 : decode cJ5_newCapacity_0f7a4 54 = .ok (.getfield 22, 3) := by decide +kernel
theorem dJ5_newCapacity_0f7a4_57 : decode cJ5_newCapacity_0f7a4 57 = .ok (.ishr, 1) := by decide +kernel
theorem dJ5_newCapacity_0f7a4_58 : decode cJ5_newCapacity_0f7a4 58 = .ok (.ireturn, 1) := by decide +kernel
theorem dJ5_inflate_da8c8_0 : decode cJ5_inflate_da8c8 0 = .ok (.aload_n 0, 1) := by decide +kernel
theorem dJ5_inflate_da8c8_1 : decode cJ5_inflate_da8c8 1 = .ok (.invokevirtual 83, 3) := by decide +kernel
theorem dJ5_inflate_da8c8_4 : decode cJ5_inflate_da8c8 4 = .ok (.ifCond .ne 4, 3) := by decide +kernel
theorem dJ5_inflate_da8c8_7 : decode cJ5_inflate_da8c8 7 = .ok (.return_, 1) := by decide +kernel
theorem dJ5_inflate_da8c8_8 : decode cJ5_inflate_da8c8 8 = .ok (.aload_n 0, 1) := by decide +kernel
theorem dJ5_inflate_da8c8_9 : decode cJ5_inflate_da8c8 9 = .ok (.getfield 15, 3) := by decide +kernel
theorem dJ5_inflate_da8c8_12 : decode cJ5_inflate_da8c8 12 = .ok (.arraylength, 1) := by decide +kernel
theorem dJ5_inflate_da8c8_13 : decode cJ5_inflate_da8c8 13 = .ok (.invokestatic 26, 3) := by decide +kernel
theorem dJ5_inflate_da8c8_16 : decode cJ5_inflate_da8c8 16 = .ok (.astore_n 1, 1) := by decide +kernel
theorem dJ5_inflate_da8c8_17 : decode cJ5_inflate_da8c8 17 = .ok (.aload_n 0, 1) := by decide +kernel
theorem dJ5_inflate_da8c8_18 : decode cJ5_inflate_da8c8 18 = .ok (.getfield 15, 3) := by decide +kernel
theorem dJ5_inflate_da8c8_21 : decode cJ5_inflate_da8c8 21 = .ok (.iconst 0, 1) := by decide +kernel
theorem dJ5_inflate_da8c8_22 : decode cJ5_inflate_da8c8 22 = .ok (.aload_n 1, 1) := by decide +kernel
theorem dJ5_inflate_da8c8_23 : decode cJ5_inflate_da8c8 23 = .ok (.iconst 0, 1) := by decide +kernel
theorem dJ5_inflate_da8c8_24 : decode cJ5_inflate_da8c8 24 = .ok (.aload_n 0, 1) := by decide +kernel
theorem dJ5_inflate_da8c8_25 : decode cJ5_inflate_da8c8 25 = .ok (.getfield 79, 3) := by decide +kernel
theorem dJ5_inflate_da8c8_28 : decode cJ5_inflate_da8c8 28 = .ok (.invokestatic 125, 3) := by decide +kernel
theorem dJ5_inflate_da8c8_31 : decode cJ5_inflate_da8c8 31 = .ok (.aload_n 0, 1) := by decide +kernel
theorem dJ5_inflate_da8c8_32 : decode cJ5_inflate_da8c8 32 = .ok (.aload_n 1, 1) := by decide +kernel
theorem dJ5_inflate_da8c8_33 : decode cJ5_inflate_da8c8 33 = .ok (.putfield 15, 3) := by decide +kernel
theorem dJ5_inflate_da8c8_36 : decode cJ5_inflate_da8c8 36 = .ok (.aload_n 0, 1) := by decide +kernel
theorem dJ5_inflate_da8c8_37 : decode cJ5_inflate_da8c8 37 = .ok (.iconst 1, 1) := by decide +kernel
theorem dJ5_inflate_da8c8_38 : decode cJ5_inflate_da8c8 38 = .ok (.putfield 22, 3) := by decide +kernel
theorem dJ5_inflate_da8c8_41 : decode cJ5_inflate_da8c8 41 = .ok (.return_, 1) := by decide +kernel
theorem dJ5_setLength_d00df_0 : decode cJ5_setLength_d00df 0 = .ok (.iload_n 1, 1) := by decide +kernel
theorem dJ5_setLength_d00df_1 : decode cJ5_setLength_d00df 1 = .ok (.ifCond .ge 12, 3) := by decide +kernel
theorem dJ5_setLength_d00df_4 : decode cJ5_setLength_d00df 4 = .ok (.new 129, 3) := by decide +kernel
theorem dJ5_setLength_d00df_7 : decode cJ5_setLength_d00df 7 = .ok (.dup, 1) := by decide +kernel
theorem dJ5_setLength_d00df_8 : decode cJ5_setLength_d00df 8 = .ok (.iload_n 1, 1) := by decide +kernel
theorem dJ5_setLength_d00df_9 : decode cJ5_setLength_d00df 9 = .ok (.invokespecial 131, 3) := by decide +kernel
theorem dJ5_setLength_d00df_12 : decode cJ5_setLength_d00df 12 = .ok (.athrow, 1) := by decide +kernel
theorem dJ5_setLength_d00df_13 : decode cJ5_setLength_d00df 13 = .ok (.aload_n 0, 1) := by decide +kernel
theorem dJ5_setLength_d00df_14 : decode cJ5_setLength_d00df 14 = .ok (.iload_n 1, 1) := by decide +kernel
theorem dJ5_setLength_d00df_15 : decode cJ5_setLength_d00df 15 = .ok (.invokevirtual 100, 3) := by decide +kernel
theorem dJ5_setLength_d00df_18 : decode cJ5_setLength_d00df 18 = .ok (.aload_n 0, 1) := by decide +kernel
theorem dJ5_setLength_d00df_19 : decode cJ5_setLength_d00df 19 = .ok (.getfield 79, 3) := by decide +kernel
theorem dJ5_setLength_d00df_22 : decode cJ5_setLength_d00df 22 = .ok (.iload_n 1, 1) := by decide +kernel
theorem dJ5_setLength_d00df_23 : decode cJ5_setLength_d00df 23 = .ok (.if_icmp .ge 40, 3) := by decide +kernel
theorem dJ5_setLength_d00df_26 : decode cJ5_setLength_d00df 26 = .ok (.aload_n 0, 1) := by decide +kernel
theorem dJ5_setLength_d00df_27 : decode cJ5_setLength_d00df 27 = .ok (.invokevirtual 83, 3) := by decide +kernel
theorem dJ5_setLength_d00df_30 : decode cJ5_setLength_d00df 30 = .ok (.ifCond .eq 18, 3) := by decide +kernel
theorem dJ5_setLength_d00df_33 : decode cJ5_setLength_d00df 33 = .ok (.aload_n 0, 1) := by decide +kernel
theorem dJ5_setLength_d00df_34 : decode cJ5_setLength_d00df 34 = .ok (.getfield 15, 3) := by decide +kernel
theorem dJ5_setLength_d00df_37 : decode cJ5_setLength_d00df 37 = .ok (.aload_n 0, 1) := by decide +kernel
theorem dJ5_setLength_d00df_38 : decode cJ5_setLength_d00df 38 = .ok (.getfield 79, 3) := by decide +kernel
theorem dJ5_setLength_d00df_41 : decode cJ5_setLength_d00df 41 = .ok (.iload_n 1, 1) := by decide +kernel
theorem dJ5_setLength_d00df_42 : decode cJ5_setLength_d00df 42 = .ok (.invokestatic 133, 3) := by decide +kernel
theorem dJ5_setLength_d00df_45 : decode cJ5_setLength_d00df 45 = .ok (.goto 31, 3) := by decide +kernel
theorem dJ5_setLength_d00df_48 : decode cJ5_setLength_d00df 48 = .ok (.aload_n 0, 1) := by decide +kernel
theorem dJ5_setLength_d00df_49 : decode cJ5_setLength_d00df 49 = .ok (.getfield 15, 3) := by decide +kernel
theorem dJ5_setLength_d00df_52 : decode cJ5_setLength_d00df 52 = .ok (.aload_n 0, 1) := by decide +kernel
theorem dJ5_setLength_d00df_53 : decode cJ5_setLength_d00df 53 = .ok (.getfield 79, 3) := by decide +kernel
theorem dJ5_setLength_d00df_56 : decode cJ5_setLength_d00df 56 = .ok (.iload_n 1, 1) := by decide +kernel
theorem dJ5_setLength_d00df_57 : decode cJ5_setLength_d00df 57 = .ok (.invokestatic 137, 3) := by decide +kernel
theorem dJ5_setLength_d00df_60 : decode cJ5_setLength_d00df 60 = .ok (.goto 16, 3) := by decide +kernel
theorem dJ5_setLength_d00df_63 : decode cJ5_setLength_d00df 63 = .ok (.aload_n 0, 1) := by decide +kernel
theorem dJ5_setLength_d00df_64 : decode cJ5_setLength_d00df 64 = .ok (.getfield 79, 3) := by decide +kernel
theorem dJ5_setLength_d00df_67 : decode cJ5_setLength_d00df 67 = .ok (.iload_n 1, 1) := by decide +kernel
theorem dJ5_setLength_d00df_68 : decode cJ5_setLength_d00df 68 = .ok (.if_icmp .le 8, 3) := by decide +kernel
theorem dJ5_setLength_d00df_71 : decode cJ5_setLength_d00df 71 = .ok (.aload_n 0, 1) := by decide +kernel
theorem dJ5_setLength_d00df_72 : decode cJ5_setLength_d00df 72 = .ok (.iconst 1, 1) := by decide +kernel
theorem dJ5_setLength_d00df_73 : decode cJ5_setLength_d00df 73 = .ok (.putfield 73, 3) := by decide +kernel
theorem dJ5_setLength_d00df_76 : decode cJ5_setLength_d00df 76 = .ok (.aload_n 0, 1) := by decide +kernel
theorem dJ5_setLength_d00df_77 : decode cJ5_setLength_d00df 77 = .ok (.iload_n 1, 1) := by decide +kernel
theorem dJ5_setLength_d00df_78 : decode cJ5_setLength_d00df 78 = .ok (.putfield 79, 3) := by decide +kernel
theorem dJ5_setLength_d00df_81 : decode cJ5_setLength_d00df 81 = .ok (.return_, 1) := by decide +kernel
theorem dJ5_charAt_5068e_0 : decode cJ5_charAt_5068e 0 = .ok (.aload_n 0, 1) := by decide +kernel
theorem dJ5_charAt_5068e_1 : decode cJ5_charAt_5068e 1 = .ok (.getfield 22, 3) := by decide +kernel
theorem dJ5_charAt_5068e_4 : decode cJ5_charAt_5068e 4 = .ok (.istore_n 2, 1) := by decide +kernel
theorem dJ5_charAt_5068e_5 : decode cJ5_charAt_5068e 5 = .ok (.aload_n 0, 1) := by decide +kernel
theorem dJ5_charAt_5068e_6 : decode cJ5_charAt_5068e 6 = .ok (.getfield 15, 3) := by decide +kernel
theorem dJ5_charAt_5068e_9 : decode cJ5_charAt_5068e 9 = .ok (.astore_n 3, 1) := by decide +kernel
theorem dJ5_charAt_5068e_10 : decode cJ5_charAt_5068e 10 = .ok (.aload_n 0, 1) := by decide +kernel
theorem dJ5_charAt_5068e_11 : decode cJ5_charAt_5068e 11 = .ok (.getfield 79, 3) := by decide +kernel
theorem dJ5_charAt_5068e_14 : decode cJ5_charAt_5068e 14 = .ok (.aload_n 3, 1) := by decide +kernel
theorem dJ5_charAt_5068e_15 : decode cJ5_charAt_5068e 15 = .ok (.arraylength, 1) := by decide +kernel
theorem dJ5_charAt_5068e_16 : decode cJ5_charAt_5068e 16 = .ok (.iload_n 2, 1) := by decide +kernel
theorem dJ5_charAt_5068e_17 : decode cJ5_charAt_5068e 17 = .ok (.ishr, 1) := by decide +kernel
theorem dJ5_charAt_5068e_18 : decode cJ5_charAt_5068e 18 = .ok (.invokestatic 138, 3) := by decide +kernel
theorem dJ5_charAt_5068e_21 : decode cJ5_charAt_5068e 21 = .ok (.istore 4, 2) := by decide +kernel
theorem dJ5_charAt_5068e_23 : decode cJ5_charAt_5068e 23 = .ok (.iload_n 1, 1) := by decide +kernel
theorem dJ5_charAt_5068e_24 : decode cJ5_charAt_5068e 24 = .ok (.iload 4, 2) := by decide +kernel
theorem dJ5_charAt_5068e_26 : decode cJ5_charAt_5068e 26 = .ok (.invokestatic 144, 3) := by decide +kernel
theorem dJ5_charAt_5068e_29 : decode cJ5_charAt_5068e 29 = .ok (.iload_n 2, 1) := by decide +kernel
theorem dJ5_charAt_5068e_30 : decode cJ5_charAt_5068e 30 = .ok (.ifCond .ne 12, 3) := by decide +kernel
theorem dJ5_charAt_5068e_33 : decode cJ5_charAt_5068e 33 = .ok (.aload_n 3, 1) := by decide +kernel
theorem dJ5_charAt_5068e_34 : decode cJ5_charAt_5068e 34 = .ok (.iload_n 1, 1) := by decide +kernel
theorem dJ5_charAt_5068e_35 : decode cJ5_charAt_5068e 35 = .ok (.baload, 1) := by decide +kernel
theorem dJ5_charAt_5068e_36 : decode cJ5_charAt_5068e 36 = .ok (.sipush 255, 3) := by decide +kernel
theorem dJ5_charAt_5068e_39 : decode cJ5_charAt_5068e 39 = .ok (.iand, 1) := by decide +kernel
theorem dJ5_charAt_5068e_40 : decode cJ5_charAt_5068e 40 = .ok (.i2c, 1) := by decide +kernel
theorem dJ5_charAt_5068e_41 : decode cJ5_charAt_5068e 41 = .ok (.ireturn, 1) := by decide +kernel
theorem dJ5_charAt_5068e_42 : decode cJ5_charAt_5068e 42 = .ok (.aload_n 3, 1) := by decide +kernel
theorem dJ5_charAt_5068e_43 : decode cJ5_charAt_5068e 43 = .ok (.iload_n 1, 1) := by decide +kernel
theorem dJ5_charAt_5068e_44 : decode cJ5_charAt_5068e 44 = .ok (.invokestatic 148, 3) := by decide +kernel
theorem dJ5_charAt_5068e_47 : decode cJ5_charAt_5068e 47 = .ok (.ireturn, 1) := by decide +kernel
theorem dJ5_append_cf1ce_0 : decode cJ5_append_cf1ce 0 = .ok (.aload_n 1, 1) := by decide +kernel
theorem dJ5_append_cf1ce_1 : decode cJ5_append_cf1ce 1 = .ok (.ifnonnull 8, 3) := by decide +kernel
theorem dJ5_append_cf1ce_4 : decode cJ5_append_cf1ce 4 = .ok (.aload_n 0, 1) := by decide +kernel
theorem dJ5_append_cf1ce_5 : decode cJ5_append_cf1ce 5 = .ok (.invokevirtual 204, 3) := by decide +kernel
theorem dJ5_append_cf1ce_8 : decode cJ5_append_cf1ce 8 = .ok (.areturn, 1) := by decide +kernel
theorem dJ5_append_cf1ce_9 : decode cJ5_append_cf1ce 9 = .ok (.aload_n 1, 1) := by decide +kernel
theorem dJ5_append_cf1ce_10 : decode cJ5_append_cf1ce 10 = .ok (.invokevirtual 32, 3) := by decide +kernel
theorem dJ5_append_cf1ce_13 : decode cJ5_append_cf1ce 13 = .ok (.istore_n 2, 1) := by decide +kernel
theorem dJ5_append_cf1ce_14 : decode cJ5_append_cf1ce 14 = .ok (.aload_n 0, 1) := by decide +kernel
theorem dJ5_append_cf1ce_15 : decode cJ5_append_cf1ce 15 = .ok (.aload_n 0, 1) := by decide +kernel
theorem dJ5_append_cf1ce_16 : decode cJ5_append_cf1ce 16 = .ok (.getfield 79, 3) := by decide +kernel
theorem dJ5_append_cf1ce_19 : decode cJ5_append_cf1ce 19 = .ok (.iload_n 2, 1) := by decide +kernel
theorem dJ5_append_cf1ce_20 : decode cJ5_append_cf1ce 20 = .ok (.iadd, 1) := by decide +kernel
theorem dJ5_append_cf1ce_21 : decode cJ5_append_cf1ce 21 = .ok (.invokevirtual 100, 3) := by decide +kernel
theorem dJ5_append_cf1ce_24 : decode cJ5_append_cf1ce 24 = .ok (.aload_n 0, 1) := by decide +kernel
theorem dJ5_append_cf1ce_25 : decode cJ5_append_cf1ce 25 = .ok (.aload_n 0, 1) := by decide +kernel
theorem dJ5_append_cf1ce_26 : decode cJ5_append_cf1ce 26 = .ok (.getfield 79, 3) := by decide +kernel
theorem dJ5_append_cf1ce_29 : decode cJ5_append_cf1ce 29 = .ok (.aload_n 1, 1) := by decide +kernel
theorem dJ5_append_cf1ce_30 : decode cJ5_append_cf1ce 30 = .ok (.invokevirtual 208, 3) := by decide +kernel
theorem dJ5_append_cf1ce_33 : decode cJ5_append_cf1ce 33 = .ok (.aload_n 0, 1) := by decide +kernel
theorem dJ5_append_cf1ce_34 : decode cJ5_append_cf1ce 34 = .ok (.dup, 1) := by decide +kernel
theorem dJ5_append_cf1ce_35 : decode cJ5_append_cf1ce 35 = .ok (.getfield 79, 3) := by decide +kernel
theorem dJ5_append_cf1ce_38 : decode cJ5_append_cf1ce 38 = .ok (.iload_n 2, 1) := by decide +kernel
theorem dJ5_append_cf1ce_39 : decode cJ5_append_cf1ce 39 = .ok (.iadd, 1) := by decide +kernel
theorem dJ5_append_cf1ce_40 : decode cJ5_append_cf1ce 40 = .ok (.putfield 79, 3) := by decide +kernel
theorem dJ5_append_cf1ce_43 : decode cJ5_append_cf1ce 43 = .ok (.aload_n 0, 1) := by decide +kernel
theorem dJ5_append_cf1ce_44 : decode cJ5_append_cf1ce 44 = .ok (.areturn, 1) := by decide +kernel
theorem dJ5_appendNull_278bc_0 : decode cJ5_appendNull_278bc 0 = .ok (.aload_n 0, 1) := by decide +kernel
theorem dJ5_appendNull_278bc_1 : decode cJ5_appendNull_278bc 1 = .ok (.aload_n 0, 1) := by decide +kernel
theorem dJ5_appendNull_278bc_2 : decode cJ5_appendNull_278bc 2 = .ok (.getfield 79, 3) := by decide +kernel
theorem dJ5_appendNull_278bc_5 : decode cJ5_appendNull_278bc 5 = .ok (.iconst 4, 1) := by decide +kernel
theorem dJ5_appendNull_278bc_6 : decode cJ5_appendNull_278bc 6 = .ok (.iadd, 1) := by decide +kernel
theorem dJ5_appendNull_278bc_7 : decode cJ5_appendNull_278bc 7 = .ok (.invokevirtual 100, 3) := by decide +kernel
theorem dJ5_appendNull_278bc_10 : decode cJ5_appendNull_278bc 10 = .ok (.aload_n 0, 1) := by decide +kernel
theorem dJ5_appendNull_278bc_11 : decode cJ5_appendNull_278bc 11 = .ok (.getfield 79, 3) := by decide +kernel
theorem dJ5_appendNull_278bc_14 : decode cJ5_appendNull_278bc 14 = .ok (.istore_n 1, 1) := by decide +kernel
theorem dJ5_appendNull_278bc_15 : decode cJ5_appendNull_278bc 15 = .ok (.aload_n 0, 1) := by decide +kernel
theorem dJ5_appendNull_278bc_16 : decode cJ5_appendNull_278bc 16 = .ok (.getfield 15, 3) := by decide +kernel
theorem dJ5_appendNull_278bc_19 : decode cJ5_appendNull_278bc 19 = .ok (.astore_n 2, 1) := by decide +kernel
theorem dJ5_appendNull_278bc_20 : decode cJ5_appendNull_278bc 20 = .ok (.aload_n 0, 1) := by decide +kernel
theorem dJ5_appendNull_278bc_21 : decode cJ5_appendNull_278bc 21 = .ok (.invokevirtual 83, 3) := by decide +kernel
theorem dJ5_appendNull_278bc_24 : decode cJ5_appendNull_278bc 24 = .ok (.ifCond .eq 38, 3) := by decide +kernel
theorem dJ5_appendNull_278bc_27 : decode cJ5_appendNull_278bc 27 = .ok (.aload_n 2, 1) := by decide +kernel
theorem dJ5_appendNull_278bc_28 : decode cJ5_appendNull_278bc 28 = .ok (.iload_n 1, 1) := by decide +kernel
theorem dJ5_appendNull_278bc_29 : decode cJ5_appendNull_278bc 29 = .ok (.iinc 1 1, 3) := by decide +kernel
theorem dJ5_appendNull_278bc_32 : decode cJ5_appendNull_278bc 32 = .ok (.bipush 110, 2) := by decide +kernel
theorem dJ5_appendNull_278bc_34 : decode cJ5_appendNull_278bc 34 = .ok (.bastore, 1) := by decide +kernel
theorem dJ5_appendNull_278bc_35 : decode cJ5_appendNull_278bc 35 = .ok (.aload_n 2, 1) := by decide +kernel
theorem dJ5_appendNull_278bc_36 : decode cJ5_appendNull_278bc 36 = .ok (.iload_n 1, 1) := by decide +kernel
theorem dJ5_appendNull_278bc_37 : decode cJ5_appendNull_278bc 37 = .ok (.iinc 1 1, 3) := by decide +kernel
theorem dJ5_appendNull_278bc_40 : decode cJ5_appendNull_278bc 40 = .ok (.bipush 117, 2) := by decide +kernel
theorem dJ5_appendNull_278bc_42 : decode cJ5_appendNull_278bc 42 = .ok (.bastore, 1) := by decide +kernel
theorem dJ5_appendNull_278bc_43 : decode cJ5_appendNull_278bc 43 = .ok (.aload_n 2, 1) := by decide +kernel
theorem dJ5_appendNull_278bc_44 : decode cJ5_appendNull_278bc 44 = .ok (.iload_n 1, 1) := by decide +kernel
theorem dJ5_appendNull_278bc_45 : decode cJ5_appendNull_278bc 45 = .ok (.iinc 1 1, 3) := by decide +kernel
theorem dJ5_appendNull_278bc_48 : decode cJ5_appendNull_278bc 48 = .ok (.bipush 108, 2) := by decide +kernel
theorem dJ5_appendNull_278bc_50 : decode cJ5_appendNull_278bc 50 = .ok (.bastore, 1) := by decide +kernel
theorem dJ5_appendNull_278bc_51 : decode cJ5_appendNull_278bc 51 = .ok (.aload_n 2, 1) := by decide +kernel
theorem dJ5_appendNull_278bc_52 : decode cJ5_appendNull_278bc 52 = .ok (.iload_n 1, 1) := by decide +kernel
theorem dJ5_appendNull_278bc_53 : decode cJ5_appendNull_278bc 53 = .ok (.iinc 1 1, 3) := by decide +kernel
theorem dJ5_appendNull_278bc_56 : decode cJ5_appendNull_278bc 56 = .ok (.bipush 108, 2) := by decide +kernel
theorem dJ5_appendNull_278bc_58 : decode cJ5_appendNull_278bc 58 = .ok (.bastore, 1) := by decide +kernel
theorem dJ5_appendNull_278bc_59 : decode cJ5_appendNull_278bc 59 = .ok (.goto 17, 3) := by decide +kernel
theorem dJ5_appendNull_278bc_62 : decode cJ5_appendNull_278bc 62 = .ok (.aload_n 2, 1) := by decide +kernel
theorem dJ5_appendNull_278bc_63 : decode cJ5_appendNull_278bc 63 = .ok (.iload_n 1, 1) := by decide +kernel
theorem dJ5_appendNull_278bc_64 : decode cJ5_appendNull_278bc 64 = .ok (.bipush 110, 2) := by decide +kernel
theorem dJ5_appendNull_278bc_66 : decode cJ5_appendNull_278bc 66 = .ok (.bipush 117, 2) := by decide +kernel
theorem dJ5_appendNull_278bc_68 : decode cJ5_appendNull_278bc 68 = .ok (.bipush 108, 2) := by decide +kernel
theorem dJ5_appendNull_278bc_70 : decode cJ5_appendNull_278bc 70 = .ok (.bipush 108, 2) := by decide +kernel
theorem dJ5_appendNull_278bc_72 : decode cJ5_appendNull_278bc 72 = .ok (.invokestatic 226, 3) := by decide +kernel
theorem dJ5_appendNull_278bc_75 : decode cJ5_appendNull_278bc 75 = .ok (.istore_n 1, 1) := by decide +kernel
theorem dJ5_appendNull_278bc_76 : decode cJ5_appendNull_278bc 76 = .ok (.aload_n 0, 1) := by decide +kernel
theorem dJ5_appendNull_278bc_77 : decode cJ5_appendNull_278bc 77 = .ok (.iload_n 1, 1) := by decide +kernel
theorem dJ5_appendNull_278bc_78 : decode cJ5_appendNull_278bc 78 = .ok (.putfield 79, 3) := by decide +kernel
theorem dJ5_appendNull_278bc_81 : decode cJ5_appendNull_278bc 81 = .ok (.aload_n 0, 1) := by decide +kernel
theorem dJ5_appendNull_278bc_82 : decode cJ5_appendNull_278bc 82 = .ok (.areturn, 1) := by decide +kernel
theorem dJ5_append_3fe6f_0 : decode cJ5_append_3fe6f 0 = .ok (.aload_n 0, 1) := by decide +kernel
theorem dJ5_append_3fe6f_1 : decode cJ5_append_3fe6f 1 = .ok (.aload_n 0, 1) := by decide +kernel
theorem dJ5_append_3fe6f_2 : decode cJ5_append_3fe6f 2 = .ok (.getfield 79, 3) := by decide +kernel
theorem dJ5_append_3fe6f_5 : decode cJ5_append_3fe6f 5 = .ok (.iconst 1, 1) := by decide +kernel
theorem dJ5_append_3fe6f_6 : decode cJ5_append_3fe6f 6 = .ok (.iadd, 1) := by decide +kernel
theorem dJ5_append_3fe6f_7 : decode cJ5_append_3fe6f 7 = .ok (.invokevirtual 100, 3) := by decide +kernel
theorem dJ5_append_3fe6f_10 : decode cJ5_append_3fe6f 10 = .ok (.aload_n 0, 1) := by decide +kernel
theorem dJ5_append_3fe6f_11 : decode cJ5_append_3fe6f 11 = .ok (.invokevirtual 83, 3) := by decide +kernel
theorem dJ5_append_3fe6f_14 : decode cJ5_append_3fe6f 14 = .ok (.ifCond .eq 31, 3) := by decide +kernel
theorem dJ5_append_3fe6f_17 : decode cJ5_append_3fe6f 17 = .ok (.iload_n 1, 1) := by decide +kernel
theorem dJ5_append_3fe6f_18 : decode cJ5_append_3fe6f 18 = .ok (.invokestatic 191, 3) := by decide +kernel
theorem dJ5_append_3fe6f_21 : decode cJ5_append_3fe6f 21 = .ok (.ifCond .eq 24, 3) := by decide +kernel
theorem dJ5_append_3fe6f_24 : decode cJ5_append_3fe6f 24 = .ok (.aload_n 0, 1) := by decide +kernel
theorem dJ5_append_3fe6f_25 : decode cJ5_append_3fe6f 25 = .ok (.getfield 15, 3) := by decide +kernel
theorem dJ5_append_3fe6f_28 : decode cJ5_append_3fe6f 28 = .ok (.aload_n 0, 1) := by decide +kernel
theorem dJ5_append_3fe6f_29 : decode cJ5_append_3fe6f 29 = .ok (.dup, 1) := by decide +kernel
theorem dJ5_append_3fe6f_30 : decode cJ5_append_3fe6f 30 = .ok (.getfield 79, 3) := by decide +kernel
theorem dJ5_append_3fe6f_33 : decode cJ5_append_3fe6f 33 = .ok (.dup_x1, 1) := by decide +kernel
theorem dJ5_append_3fe6f_34 : decode cJ5_append_3fe6f 34 = .ok (.iconst 1, 1) := by decide +kernel
theorem dJ5_append_3fe6f_35 : decode cJ5_append_3fe6f 35 = .ok (.iadd, 1) := by decide +kernel
theorem dJ5_append_3fe6f_36 : decode cJ5_append_3fe6f 36 = .ok (.putfield 79, 3) := by decide +kernel
theorem dJ5_append_3fe6f_39 : decode cJ5_append_3fe6f 39 = .ok (.iload_n 1, 1) := by decide +kernel
theorem dJ5_append_3fe6f_40 : decode cJ5_append_3fe6f 40 = .ok (.i2b, 1) := by decide +kernel
theorem dJ5_append_3fe6f_41 : decode cJ5_append_3fe6f 41 = .ok (.bastore, 1) := by decide +kernel
theorem dJ5_append_3fe6f_42 : decode cJ5_append_3fe6f 42 = .ok (.goto 33, 3) := by decide +kernel
theorem dJ5_append_3fe6f_45 : decode cJ5_append_3fe6f 45 = .ok (.aload_n 0, 1) := by decide +kernel
theorem dJ5_append_3fe6f_46 : decode cJ5_append_3fe6f 46 = .ok (.invokevirtual 83, 3) := by decide +kernel
theorem dJ5_append_3fe6f_49 : decode cJ5_append_3fe6f 49 = .ok (.ifCond .eq 7, 3) := by decide +kernel
theorem dJ5_append_3fe6f_52 : decode cJ5_append_3fe6f 52 = .ok (.aload_n 0, 1) := by decide +kernel
theorem dJ5_append_3fe6f_53 : decode cJ5_append_3fe6f 53 = .ok (.invokevirtual 195, 3) := by decide +kernel
theorem dJ5_append_3fe6f_56 : decode cJ5_append_3fe6f 56 = .ok (.aload_n 0, 1) := by decide +kernel
theorem dJ5_append_3fe6f_57 : decode cJ5_append_3fe6f 57 = .ok (.getfield 15, 3) := by decide +kernel
theorem dJ5_append_3fe6f_60 : decode cJ5_append_3fe6f 60 = .ok (.aload_n 0, 1) := by decide +kernel
theorem dJ5_append_3fe6f_61 : decode cJ5_append_3fe6f 61 = .ok (.dup, 1) := by decide +kernel
theorem dJ5_append_3fe6f_62 : decode cJ5_append_3fe6f 62 = .ok (.getfield 79, 3) := by decide +kernel
theorem dJ5_append_3fe6f_65 : decode cJ5_append_3fe6f 65 = .ok (.dup_x1, 1) := by decide +kernel
theorem dJ5_append_3fe6f_66 : decode cJ5_append_3fe6f 66 = .ok (.iconst 1, 1) := by decide +kernel
theorem dJ5_append_3fe6f_67 : decode cJ5_append_3fe6f 67 = .ok (.iadd, 1) := by decide +kernel
theorem dJ5_append_3fe6f_68 : decode cJ5_append_3fe6f 68 = .ok (.putfield 79, 3) := by decide +kernel
theorem dJ5_append_3fe6f_71 : decode cJ5_append_3fe6f 71 = .ok (.iload_n 1, 1) := by decide +kernel
theorem dJ5_append_3fe6f_72 : decode cJ5_append_3fe6f 72 = .ok (.invokestatic 197, 3) := by decide +kernel
theorem dJ5_append_3fe6f_75 : decode cJ5_append_3fe6f 75 = .ok (.aload_n 0, 1) := by decide +kernel
theorem dJ5_append_3fe6f_76 : decode cJ5_append_3fe6f 76 = .ok (.areturn, 1) := by decide +kernel
theorem dJ5_append_c97b9_0 : decode cJ5_append_c97b9 0 = .ok (.aload_n 0, 1) := by decide +kernel
theorem dJ5_append_c97b9_1 : decode cJ5_append_c97b9 1 = .ok (.getfield 79, 3) := by decide +kernel
theorem dJ5_append_c97b9_4 : decode cJ5_append_c97b9 4 = .ok (.istore_n 2, 1) := by decide +kernel
theorem dJ5_append_c97b9_5 : decode cJ5_append_c97b9 5 = .ok (.iload_n 2, 1) := by decide +kernel
theorem dJ5_append_c97b9_6 : decode cJ5_append_c97b9 6 = .ok (.iload_n 1, 1) := by decide +kernel
theorem dJ5_append_c97b9_7 : decode cJ5_append_c97b9 7 = .ok (.invokestatic 245, 3) := by decide +kernel
theorem dJ5_append_c97b9_10 : decode cJ5_append_c97b9 10 = .ok (.iadd, 1) := by decide +kernel
theorem dJ5_append_c97b9_11 : decode cJ5_append_c97b9 11 = .ok (.istore_n 3, 1) := by decide +kernel
theorem dJ5_append_c97b9_12 : decode cJ5_append_c97b9 12 = .ok (.aload_n 0, 1) := by decide +kernel
theorem dJ5_append_c97b9_13 : decode cJ5_append_c97b9 13 = .ok (.iload_n 3, 1) := by decide +kernel
theorem dJ5_append_c97b9_14 : decode cJ5_append_c97b9 14 = .ok (.invokevirtual 100, 3) := by decide +kernel
theorem dJ5_append_c97b9_17 : decode cJ5_append_c97b9 17 = .ok (.aload_n 0, 1) := by decide +kernel
theorem dJ5_append_c97b9_18 : decode cJ5_append_c97b9 18 = .ok (.invokevirtual 83, 3) := by decide +kernel
theorem dJ5_append_c97b9_21 : decode cJ5_append_c97b9 21 = .ok (.ifCond .eq 16, 3) := by decide +kernel
theorem dJ5_append_c97b9_24 : decode cJ5_append_c97b9 24 = .ok (.iload_n 1, 1) := by decide +kernel
theorem dJ5_append_c97b9_25 : decode cJ5_append_c97b9 25 = .ok (.iload_n 3, 1) := by decide +kernel
theorem dJ5_append_c97b9_26 : decode cJ5_append_c97b9 26 = .ok (.aload_n 0, 1) := by decide +kernel
theorem dJ5_append_c97b9_27 : decode cJ5_append_c97b9 27 = .ok (.getfield 15, 3) := by decide +kernel
theorem dJ5_append_c97b9_30 : decode cJ5_append_c97b9 30 = .ok (.invokestatic 248, 3) := by decide +kernel
theorem dJ5_append_c97b9_33 : decode cJ5_append_c97b9 33 = .ok (.pop, 1) := by decide +kernel
theorem dJ5_append_c97b9_34 : decode cJ5_append_c97b9 34 = .ok (.goto 14, 3) := by decide +kernel
theorem dJ5_append_c97b9_37 : decode cJ5_append_c97b9 37 = .ok (.iload_n 1, 1) := by decide +kernel
theorem dJ5_append_c97b9_38 : decode cJ5_append_c97b9 38 = .ok (.iload_n 2, 1) := by decide +kernel
theorem dJ5_append_c97b9_39 : decode cJ5_append_c97b9 39 = .ok (.iload_n 3, 1) := by decide +kernel
theorem dJ5_append_c97b9_40 : decode cJ5_append_c97b9 40 = .ok (.aload_n 0, 1) := by decide +kernel
theorem dJ5_append_c97b9_41 : decode cJ5_append_c97b9 41 = .ok (.getfield 15, 3) := by decide +kernel
theorem dJ5_append_c97b9_44 : decode cJ5_append_c97b9 44 = .ok (.invokestatic 251, 3) := by decide +kernel
theorem dJ5_append_c97b9_47 : decode cJ5_append_c97b9 47 = .ok (.pop, 1) := by decide +kernel
theorem dJ5_append_c97b9_48 : decode cJ5_append_c97b9 48 = .ok (.aload_n 0, 1) := by decide +kernel
theorem dJ5_append_c97b9_49 : decode cJ5_append_c97b9 49 = .ok (.iload_n 3, 1) := by decide +kernel
theorem dJ5_append_c97b9_50 : decode cJ5_append_c97b9 50 = .ok (.putfield 79, 3) := by decide +kernel
theorem dJ5_append_c97b9_53 : decode cJ5_append_c97b9 53 = .ok (.aload_n 0, 1) := by decide +kernel
theorem dJ5_append_c97b9_54 : decode cJ5_append_c97b9 54 = .ok (.areturn, 1) := by decide +kernel
theorem dJ5_getValue_6d5f1_0 : decode cJ5_getValue_6d5f1 0 = .ok (.aload_n 0, 1) := by decide +kernel
theorem dJ5_getValue_6d5f1_1 : decode cJ5_getValue_6d5f1 1 = .ok (.getfield 15, 3) := by decide +kernel
theorem dJ5_getValue_6d5f1_4 : decode cJ5_getValue_6d5f1 4 = .ok (.areturn, 1) := by decide +kernel
theorem dJ5_isLatin1_aae02_0 : decode cJ5_isLatin1_aae02 0 = .ok (.getstatic 18, 3) := by decide +kernel
theorem dJ5_isLatin1_aae02_3 : decode cJ5_isLatin1_aae02 3 = .ok (.ifCond .eq 14, 3) := by decide +kernel
theorem dJ5_isLatin1_aae02_6 : decode cJ5_isLatin1_aae02 6 = .ok (.aload_n 0, 1) := by decide +kernel
theorem dJ5_isLatin1_aae02_7 : decode cJ5_isLatin1_aae02 7 = .ok (.getfield 22, 3) := by decide +kernel
theorem dJ5_isLatin1_aae02_10 : decode cJ5_isLatin1_aae02 10 = .ok (.ifCond .ne 7, 3) := by decide +kernel
theorem dJ5_isLatin1_aae02_13 : decode cJ5_isLatin1_aae02 13 = .ok (.iconst 1, 1) := by decide +kernel
theorem dJ5_isLatin1_aae02_14 : decode cJ5_isLatin1_aae02 14 = .ok (.goto 4, 3) := by decide +kernel
theorem dJ5_isLatin1_aae02_17 : decode cJ5_isLatin1_aae02 17 = .ok (.iconst 0, 1) := by decide +kernel
theorem dJ5_isLatin1_aae02_18 : decode cJ5_isLatin1_aae02 18 = .ok (.ireturn, 1) := by decide +kernel
theorem dJ5_inflateIfNeededFor_a7421_0 : decode cJ5_inflateIfNeededFor_a7421 0 = .ok (.getstatic 18, 3) := by decide +kernel
theorem dJ5_inflateIfNeededFor_a7421_3 : decode cJ5_inflateIfNeededFor_a7421 3 = .ok (.ifCond .eq 18, 3) := by decide +kernel
theorem dJ5_inflateIfNeededFor_a7421_6 : decode cJ5_inflateIfNeededFor_a7421 6 = .ok (.aload_n 0, 1) := by decide +kernel
theorem dJ5_inflateIfNeededFor_a7421_7 : decode cJ5_inflateIfNeededFor_a7421 7 = .ok (.getfield 22, 3) := by decide +kernel
theorem dJ5_inflateIfNeededFor_a7421_10 : decode cJ5_inflateIfNeededFor_a7421 10 = .ok (.aload_n 1, 1) := by decide +kernel
theorem dJ5_inflateIfNeededFor_a7421_11 : decode cJ5_inflateIfNeededFor_a7421 11 = .ok (.invokevirtual 40, 3) := by decide +kernel
theorem dJ5_inflateIfNeededFor_a7421_14 : decode cJ5_inflateIfNeededFor_a7421 14 = .ok (.if_icmp .eq 7, 3) := by decide +kernel
theorem dJ5_inflateIfNeededFor_a7421_17 : decode cJ5_inflateIfNeededFor_a7421 17 = .ok (.aload_n 0, 1) := by decide +kernel
theorem dJ5_inflateIfNeededFor_a7421_18 : decode cJ5_inflateIfNeededFor_a7421 18 = .ok (.invokevirtual 195, 3) := by decide +kernel
theorem dJ5_inflateIfNeededFor_a7421_21 : decode cJ5_inflateIfNeededFor_a7421 21 = .ok (.return_, 1) := by decide +kernel
theorem dJ5_putStringAt_47b60_0 : decode cJ5_putStringAt_47b60 0 = .ok (.aload_n 0, 1) := by decide +kernel
theorem dJ5_putStringAt_47b60_1 : decode cJ5_putStringAt_47b60 1 = .ok (.aload_n 2, 1) := by decide +kernel
theorem dJ5_putStringAt_47b60_2 : decode cJ5_putStringAt_47b60 2 = .ok (.invokevirtual 397, 3) := by decide +kernel
theorem dJ5_putStringAt_47b60_5 : decode cJ5_putStringAt_47b60 5 = .ok (.aload_n 2, 1) := by decide +kernel
theorem dJ5_putStringAt_47b60_6 : decode cJ5_putStringAt_47b60 6 = .ok (.aload_n 0, 1) := by decide +kernel
theorem dJ5_putStringAt_47b60_7 : decode cJ5_putStringAt_47b60 7 = .ok (.getfield 15, 3) := by decide +kernel
theorem dJ5_putStringAt_47b60_10 : decode cJ5_putStringAt_47b60 10 = .ok (.iload_n 1, 1) := by decide +kernel
theorem dJ5_putStringAt_47b60_11 : decode cJ5_putStringAt_47b60 11 = .ok (.aload_n 0, 1) := by decide +kernel
theorem dJ5_putStringAt_47b60_12 : decode cJ5_putStringAt_47b60 12 = .ok (.getfield 22, 3) := by decide +kernel
theorem dJ5_putStringAt_47b60_15 : decode cJ5_putStringAt_47b60 15 = .ok (.invokevirtual 399, 3) := by decide +kernel
theorem dJ5_putStringAt_47b60_18 : decode cJ5_putStringAt_47b60 18 = .ok (.return_, 1) := by decide +kernel
theorem dJx00060_init_a7421_0 : decode cJx00060_init_a7421 0 = .ok (.aload_n 0, 1) := by decide +kernel
theorem dJx00060_init_a7421_1 : decode cJx00060_init_a7421 1 = .ok (.aload_n 1, 1) := by decide +kernel
theorem dJx00060_init_a7421_2 : decode cJx00060_init_a7421 2 = .ok (.invokespecial 7, 3) := by decide +kernel
theorem dJx00060_init_a7421_5 : decode cJx00060_init_a7421 5 = .ok (.return_, 1) := by decide +kernel
theorem dJx00060_init_d00df_0 : decode cJx00060_init_d00df 0 = .ok (.aload_n 0, 1) := by decide +kernel
theorem dJx00060_init_d00df_1 : decode cJx00060_init_d00df 1 = .ok (.new 10, 3) := by decide +kernel
theorem dJx00060_init_d00df_4 : decode cJx00060_init_d00df 4 = .ok (.dup, 1) := by decide +kernel
theorem dJx00060_init_d00df_5 : decode cJx00060_init_d00df 5 = .ok (.invokespecial 12, 3) := by decide +kernel
theorem dJx00060_init_d00df_8 : decode cJx00060_init_d00df 8 = .ok (.ldc 13, 2) := by decide +kernel
theorem dJx00060_init_d00df_10 : decode cJx00060_init_d00df 10 = .ok (.invokevirtual 15, 3) := by decide +kernel
theorem dJx00060_init_d00df_13 : decode cJx00060_init_d00df 13 = .ok (.iload_n 1, 1) := by decide +kernel
theorem dJx00060_init_d00df_14 : decode cJx00060_init_d00df 14 = .ok (.invokevirtual 19, 3) := by decide +kernel
theorem dJx00060_init_d00df_17 : decode cJx00060_init_d00df 17 = .ok (.invokevirtual 22, 3) := by decide +kernel
theorem dJx00060_init_d00df_20 : decode cJx00060_init_d00df 20 = .ok (.invokespecial 7, 3) := by decide +kernel
theorem dJx00060_init_d00df_23 : decode cJx00060_init_d00df 23 = .ok (.return_, 1) := by decide +kernel
theorem dJxe99ae_isNaN_b9ae7_0 : decode cJxe99ae_isNaN_b9ae7 0 = .ok (.dload_n 0, 1) := by decide +kernel
theorem dJxe99ae_isNaN_b9ae7_1 : decode cJxe99ae_isNaN_b9ae7 1 = .ok (.dload_n 0, 1) := by decide +kernel
theorem dJxe99ae_isNaN_b9ae7_2 : decode cJxe99ae_isNaN_b9ae7 2 = .ok (.dcmp .l, 1) := by decide +kernel
theorem dJxe99ae_isNaN_b9ae7_3 : decode cJxe99ae_isNaN_b9ae7 3 = .ok (.ifCond .eq 7, 3) := by decide +kernel
theorem dJxe99ae_isNaN_b9ae7_6 : decode cJxe99ae_isNaN_b9ae7 6 = .ok (.iconst 1, 1) := by decide +kernel
theorem dJxe99ae_isNaN_b9ae7_7 : decode cJxe99ae_isNaN_b9ae7 7 = .ok (.goto 4, 3) := by decide +kernel
theorem dJxe99ae_isNaN_b9ae7_10 : decode cJxe99ae_isNaN_b9ae7 10 = .ok (.iconst 0, 1) := by decide +kernel
theorem dJxe99ae_isNaN_b9ae7_11 : decode cJxe99ae_isNaN_b9ae7 11 = .ok (.ireturn, 1) := by decide +kernel
theorem dJxe99ae_doubleToLongBits_ccdee_0 : decode cJxe99ae_doubleToLongBits_ccdee 0 = .ok (.dload_n 0, 1) := by decide +kernel
theorem dJxe99ae_doubleToLongBits_ccdee_1 : decode cJxe99ae_doubleToLongBits_ccdee 1 = .ok (.invokestatic 122, 3) := by decide +kernel
theorem dJxe99ae_doubleToLongBits_ccdee_4 : decode cJxe99ae_doubleToLongBits_ccdee 4 = .ok (.ifCond .ne 8, 3) := by decide +kernel
theorem dJxe99ae_doubleToLongBits_ccdee_7 : decode cJxe99ae_doubleToLongBits_ccdee 7 = .ok (.dload_n 0, 1) := by decide +kernel
theorem dJxe99ae_doubleToLongBits_ccdee_8 : decode cJxe99ae_doubleToLongBits_ccdee 8 = .ok (.invokestatic 134, 3) := by decide +kernel
theorem dJxe99ae_doubleToLongBits_ccdee_11 : decode cJxe99ae_doubleToLongBits_ccdee 11 = .ok (.lreturn, 1) := by decide +kernel
theorem dJxe99ae_doubleToLongBits_ccdee_12 : decode cJxe99ae_doubleToLongBits_ccdee 12 = .ok (.ldc2_w 137, 3) := by decide +kernel
theorem dJxe99ae_doubleToLongBits_ccdee_15 : decode cJxe99ae_doubleToLongBits_ccdee 15 = .ok (.lreturn, 1) := by decide +kernel
theorem dJx29ce0_ordinal_8abf5_0 : decode cJx29ce0_ordinal_8abf5 0 = .ok (.aload_n 0, 1) := by decide +kernel
theorem dJx29ce0_ordinal_8abf5_1 : decode cJx29ce0_ordinal_8abf5 1 = .ok (.getfield 7, 3) := by decide +kernel
theorem dJx29ce0_ordinal_8abf5_4 : decode cJx29ce0_ordinal_8abf5 4 = .ok (.ireturn, 1) := by decide +kernel
theorem dJxf58ca_isNaN_12338_0 : decode cJxf58ca_isNaN_12338 0 = .ok (.fload_n 0, 1) := by decide +kernel
theorem dJxf58ca_isNaN_12338_1 : decode cJxf58ca_isNaN_12338 1 = .ok (.fload_n 0, 1) := by decide +kernel
theorem dJxf58ca_isNaN_12338_2 : decode cJxf58ca_isNaN_12338 2 = .ok (.fcmp .l, 1) := by decide +kernel
theorem dJxf58ca_isNaN_12338_3 : decode cJxf58ca_isNaN_12338 3 = .ok (.ifCond .eq 7, 3) := by decide +kernel
theorem dJxf58ca_isNaN_12338_6 : decode cJxf58ca_isNaN_12338 6 = .ok (.iconst 1, 1) := by decide +kernel
theorem dJxf58ca_isNaN_12338_7 : decode cJxf58ca_isNaN_12338 7 = .ok (.goto 4, 3) := by decide +kernel
theorem dJxf58ca_isNaN_12338_10 : decode cJxf58ca_isNaN_12338 10 = .ok (.iconst 0, 1) := by decide +kernel
theorem dJxf58ca_isNaN_12338_11 : decode cJxf58ca_isNaN_12338 11 = .ok (.ireturn, 1) := by decide +kernel
theorem dJxf58ca_floatToIntBits_5c35a_0 : decode cJxf58ca_floatToIntBits_5c35a 0 = .ok (.fload_n 0, 1) := by decide +kernel
theorem dJxf58ca_floatToIntBits_5c35a_1 : decode cJxf58ca_floatToIntBits_5c35a 1 = .ok (.invokestatic 59, 3) := by decide +kernel
theorem dJxf58ca_floatToIntBits_5c35a_4 : decode cJxf58ca_floatToIntBits_5c35a 4 = .ok (.ifCond .ne 8, 3) := by decide +kernel
theorem dJxf58ca_floatToIntBits_5c35a_7 : decode cJxf58ca_floatToIntBits_5c35a 7 = .ok (.fload_n 0, 1) := by decide +kernel
theorem dJxf58ca_floatToIntBits_5c35a_8 : decode cJxf58ca_floatToIntBits_5c35a 8 = .ok (.invokestatic 74, 3) := by decide +kernel
theorem dJxf58ca_floatToIntBits_5c35a_11 : decode cJxf58ca_floatToIntBits_5c35a 11 = .ok (.ireturn, 1) := by decide +kernel
theorem dJxf58ca_floatToIntBits_5c35a_12 : decode cJxf58ca_floatToIntBits_5c35a 12 = .ok (.ldc 77, 2) := by decide +kernel
theorem dJxf58ca_floatToIntBits_5c35a_14 : decode cJxf58ca_floatToIntBits_5c35a 14 = .ok (.ireturn, 1) := by decide +kernel
theorem dJ6_getChars_ba4f3_0 : decode cJ6_getChars_ba4f3 0 = .ok (.iload_n 1, 1) := by decide +kernel
theorem dJ6_getChars_ba4f3_1 : decode cJ6_getChars_ba4f3 1 = .ok (.istore 5, 2) := by decide +kernel
theorem dJ6_getChars_ba4f3_3 : decode cJ6_getChars_ba4f3 3 = .ok (.iload_n 0, 1) := by decide +kernel
theorem dJ6_getChars_ba4f3_4 : decode cJ6_getChars_ba4f3 4 = .ok (.ifCond .ge 7, 3) := by decide +kernel
theorem dJ6_getChars_ba4f3_7 : decode cJ6_getChars_ba4f3 7 = .ok (.iconst 1, 1) := by decide +kernel
theorem dJ6_getChars_ba4f3_8 : decode cJ6_getChars_ba4f3 8 = .ok (.goto 4, 3) := by decide +kernel
theorem dJ6_getChars_ba4f3_11 : decode cJ6_getChars_ba4f3 11 = .ok (.iconst 0, 1) := by decide +kernel
theorem dJ6_getChars_ba4f3_12 : decode cJ6_getChars_ba4f3 12 = .ok (.istore 6, 2) := by decide +kernel
theorem dJ6_getChars_ba4f3_14 : decode cJ6_getChars_ba4f3 14 = .ok (.iload 6, 2) := by decide +kernel
theorem dJ6_getChars_ba4f3_16 : decode cJ6_getChars_ba4f3 16 = .ok (.ifCond .ne 6, 3) := by decide +kernel
theorem dJ6_getChars_ba4f3_19 : decode cJ6_getChars_ba4f3 19 = .ok (.iload_n 0, 1) := by decide +kernel
theorem dJ6_getChars_ba4f3_20 : decode cJ6_getChars_ba4f3 20 = .ok (.ineg, 1) := by decide +kernel
theorem dJ6_getChars_ba4f3_21 : decode cJ6_getChars_ba4f3 21 = .ok (.istore_n 0, 1) := by decide +kernel
theorem dJ6_getChars_ba4f3_22 : decode cJ6_getChars_ba4f3 22 = .ok (.iload_n 0, 1) := by decide +kernel
theorem dJ6_getChars_ba4f3_23 : decode cJ6_getChars_ba4f3 23 = .ok (.bipush (-100), 2) := by decide +kernel
theorem dJ6_getChars_ba4f3_25 : decode cJ6_getChars_ba4f3 25 = .ok (.if_icmp .gt 47, 3) := by decide +kernel
theorem dJ6_getChars_ba4f3_28 : decode cJ6_getChars_ba4f3 28 = .ok (.iload_n 0, 1) := by decide +kernel
theorem dJ6_getChars_ba4f3_29 : decode cJ6_getChars_ba4f3 29 = .ok (.bipush 100, 2) := by decide +kernel
theorem dJ6_getChars_ba4f3_31 : decode cJ6_getChars_ba4f3 31 = .ok (.idiv, 1) := by decide +kernel
theorem dJ6_getChars_ba4f3_32 : decode cJ6_getChars_ba4f3 32 = .ok (.istore_n 3, 1) := by decide +kernel
theorem dJ6_getChars_ba4f3_33 : decode cJ6_getChars_ba4f3 33 = .ok (.iload_n 3, 1) := by decide +kernel
theorem dJ6_getChars_ba4f3_34 : decode cJ6_getChars_ba4f3 34 = .ok (.bipush 100, 2) := by decide +kernel
theorem dJ6_getChars_ba4f3_36 : decode cJ6_getChars_ba4f3 36 = .ok (.imul, 1) := by decide +kernel
theorem dJ6_getChars_ba4f3_37 : decode cJ6_getChars_ba4f3 37 = .ok (.iload_n 0, 1) := by decide +kernel
theorem dJ6_getChars_ba4f3_38 : decode cJ6_getChars_ba4f3 38 = .ok (.isub, 1) := by decide +kernel
theorem dJ6_getChars_ba4f3_39 : decode cJ6_getChars_ba4f3 39 = .ok (.istore 4, 2) := by decide +kernel
theorem dJ6_getChars_ba4f3_41 : decode cJ6_getChars_ba4f3 41 = .ok (.iload_n 3, 1) := by decide +kernel
theorem dJ6_getChars_ba4f3_42 : decode cJ6_getChars_ba4f3 42 = .ok (.istore_n 0, 1) := by decide +kernel
theorem dJ6_getChars_ba4f3_43 : decode cJ6_getChars_ba4f3 43 = .ok (.aload_n 2, 1) := by decide +kernel
theorem dJ6_getChars_ba4f3_44 : decode cJ6_getChars_ba4f3 44 = .ok (.iinc 5 (-1), 3) := by decide +kernel
theorem dJ6_getChars_ba4f3_47 : decode cJ6_getChars_ba4f3 47 = .ok (.iload 5, 2) := by decide +kernel
theorem dJ6_getChars_ba4f3_49 : decode cJ6_getChars_ba4f3 49 = .ok (.getstatic 83, 3) := by decide +kernel
theorem dJ6_getChars_ba4f3_52 : decode cJ6_getChars_ba4f3 52 = .ok (.iload 4, 2) := by decide +kernel
theorem dJ6_getChars_ba4f3_54 : decode cJ6_getChars_ba4f3 54 = .ok (.baload, 1) := by decide +kernel
theorem dJ6_getChars_ba4f3_55 : decode cJ6_getChars_ba4f3 55 = .ok (.bastore, 1) := by decide +kernel
theorem dJ6_getChars_ba4f3_56 : decode cJ6_getChars_ba4f3 56 = .ok (.aload_n 2, 1) := by decide +kernel
theorem dJ6_getChars_ba4f3_57 : decode cJ6_getChars_ba4f3 57 = .ok (.iinc 5 (-1), 3) := by decide +kernel
theorem dJ6_getChars_ba4f3_60 : decode cJ6_getChars_ba4f3 60 = .ok (.iload 5, 2) := by decide +kernel
theorem dJ6_getChars_ba4f3_62 : decode cJ6_getChars_ba4f3 62 = .ok (.getstatic 87, 3) := by decide +kernel
theorem dJ6_getChars_ba4f3_65 : decode cJ6_getChars_ba4f3 65 = .ok (.iload 4, 2) := by decide +kernel
theorem dJ6_getChars_ba4f3_67 : decode cJ6_getChars_ba4f3 67 = .ok (.baload, 1) := by decide +kernel
theorem dJ6_getChars_ba4f3_68 : decode cJ6_getChars_ba4f3 68 = .ok (.bastore, 1) := by decide +kernel
theorem dJ6_getChars_ba4f3_69 : decode cJ6_getChars_ba4f3 69 = .ok (.goto (-47), 3) := by decide +kernel
theorem dJ6_getChars_ba4f3_72 : decode cJ6_getChars_ba4f3 72 = .ok (.aload_n 2, 1) := by decide +kernel
theorem dJ6_getChars_ba4f3_73 : decode cJ6_getChars_ba4f3 73 = .ok (.iinc 5 (-1), 3) := by decide +kernel
theorem dJ6_getChars_ba4f3_76 : decode cJ6_getChars_ba4f3 76 = .ok (.iload 5, 2) := by decide +kernel
theorem dJ6_getChars_ba4f3_78 : decode cJ6_getChars_ba4f3 78 = .ok (.getstatic 83, 3) := by decide +kernel
theorem dJ6_getChars_ba4f3_81 : decode cJ6_getChars_ba4f3 81 = .ok (.iload_n 0, 1) := by decide +kernel
theorem dJ6_getChars_ba4f3_82 : decode cJ6_getChars_ba4f3 82 = .ok (.ineg, 1) := by decide +kernel
theorem dJ6_getChars_ba4f3_83 : decode cJ6_getChars_ba4f3 83 = .ok (.baload, 1) := by decide +kernel
theorem dJ6_getChars_ba4f3_84 : decode cJ6_getChars_ba4f3 84 = .ok (.bastore, 1) := by decide +kernel
theorem dJ6_getChars_ba4f3_85 : decode cJ6_getChars_ba4f3 85 = .ok (.iload_n 0, 1) := by decide +kernel
theorem dJ6_getChars_ba4f3_86 : decode cJ6_getChars_ba4f3 86 = .ok (.bipush (-9), 2) := by decide +kernel
theorem dJ6_getChars_ba4f3_88 : decode cJ6_getChars_ba4f3 88 = .ok (.if_icmp .ge 16, 3) := by decide +kernel
theorem dJ6_getChars_ba4f3_91 : decode cJ6_getChars_ba4f3 91 = .ok (.aload_n 2, 1) := by decide +kernel
theorem dJ6_getChars_ba4f3_92 : decode cJ6_getChars_ba4f3 92 = .ok (.iinc 5 (-1), 3) := by decide +kernel
theorem dJ6_getChars_ba4f3_95 : decode cJ6_getChars_ba4f3 95 = .ok (.iload 5, 2) := by decide +kernel
theorem dJ6_getChars_ba4f3_97 : decode cJ6_getChars_ba4f3 97 = .ok (.getstatic 87, 3) := by decide +kernel
theorem dJ6_getChars_ba4f3_100 : decode cJ6_getChars_ba4f3 100 = .ok (.iload_n 0, 1) := by decide +kernel
theorem dJ6_getChars_ba4f3_101 : decode cJ6_getChars_ba4f3 101 = .ok (.ineg, 1) := by decide +kernel
theorem dJ6_getChars_ba4f3_102 : decode cJ6_getChars_ba4f3 102 = .ok (.baload, 1) := by decide +kernel
theorem dJ6_getChars_ba4f3_103 : decode cJ6_getChars_ba4f3 103 = .ok (.bastore, 1) := by decide +kernel
theorem dJ6_getChars_ba4f3_104 : decode cJ6_getChars_ba4f3 104 = .ok (.iload 6, 2) := by decide +kernel
theorem dJ6_getChars_ba4f3_106 : decode cJ6_getChars_ba4f3 106 = .ok (.ifCond .eq 12, 3) := by decide +kernel
theorem dJ6_getChars_ba4f3_109 : decode cJ6_getChars_ba4f3 109 = .ok (.aload_n 2, 1) := by decide +kernel
theorem dJ6_getChars_ba4f3_110 : decode cJ6_getChars_ba4f3 110 = .ok (.iinc 5 (-1), 3) := by decide +kernel
theorem dJ6_getChars_ba4f3_113 : decode cJ6_getChars_ba4f3 113 = .ok (.iload 5, 2) := by decide +kernel
theorem dJ6_getChars_ba4f3_115 : decode cJ6_getChars_ba4f3 115 = .ok (.bipush 45, 2) := by decide +kernel
theorem dJ6_getChars_ba4f3_117 : decode cJ6_getChars_ba4f3 117 = .ok (.bastore, 1) := by decide +kernel
theorem dJ6_getChars_ba4f3_118 : decode cJ6_getChars_ba4f3 118 = .ok (.iload 5, 2) := by decide +kernel
theorem dJ6_getChars_ba4f3_120 : decode cJ6_getChars_ba4f3 120 = .ok (.ireturn, 1) := by decide +kernel
theorem dJ6_stringSize_0f7a4_0 : decode cJ6_stringSize_0f7a4 0 = .ok (.iconst 1, 1) := by decide +kernel
theorem dJ6_stringSize_0f7a4_1 : decode cJ6_stringSize_0f7a4 1 = .ok (.istore_n 1, 1) := by decide +kernel
theorem dJ6_stringSize_0f7a4_2 : decode cJ6_stringSize_0f7a4 2 = .ok (.iload_n 0, 1) := by decide +kernel
theorem dJ6_stringSize_0f7a4_3 : decode cJ6_stringSize_0f7a4 3 = .ok (.ifCond .lt 8, 3) := by decide +kernel
theorem dJ6_stringSize_0f7a4_6 : decode cJ6_stringSize_0f7a4 6 = .ok (.iconst 0, 1) := by decide +kernel
theorem dJ6_stringSize_0f7a4_7 : decode cJ6_stringSize_0f7a4 7 = .ok (.istore_n 1, 1) := by decide +kernel
theorem dJ6_stringSize_0f7a4_8 : decode cJ6_stringSize_0f7a4 8 = .ok (.iload_n 0, 1) := by decide +kernel
theorem dJ6_stringSize_0f7a4_9 : decode cJ6_stringSize_0f7a4 9 = .ok (.ineg, 1) := by decide +kernel
theorem dJ6_stringSize_0f7a4_10 : decode cJ6_stringSize_0f7a4 10 = .ok (.istore_n 0, 1) := by decide +kernel
theorem dJ6_stringSize_0f7a4_11 : decode cJ6_stringSize_0f7a4 11 = .ok (.bipush (-10), 2) := by decide +kernel
theorem dJ6_stringSize_0f7a4_13 : decode cJ6_stringSize_0f7a4 13 = .ok (.istore_n 2, 1) := by decide +kernel
theorem dJ6_stringSize_0f7a4_14 : decode cJ6_stringSize_0f7a4 14 = .ok (.iconst 1, 1) := by decide +kernel
theorem dJ6_stringSize_0f7a4_15 : decode cJ6_stringSize_0f7a4 15 = .ok (.istore_n 3, 1) := by decide +kernel
theorem dJ6_stringSize_0f7a4_16 : decode cJ6_stringSize_0f7a4 16 = .ok (.iload_n 3, 1) := by decide +kernel
theorem dJ6_stringSize_0f7a4_17 : decode cJ6_stringSize_0f7a4 17 = .ok (.bipush 10, 2) := by decide +kernel
theorem dJ6_stringSize_0f7a4_19 : decode cJ6_stringSize_0f7a4 19 = .ok (.if_icmp .ge 23, 3) := by decide +kernel
theorem dJ6_stringSize_0f7a4_22 : decode cJ6_stringSize_0f7a4 22 = .ok (.iload_n 0, 1) := by decide +kernel
theorem dJ6_stringSize_0f7a4_23 : decode cJ6_stringSize_0f7a4 23 = .ok (.iload_n 2, 1) := by decide +kernel
theorem dJ6_stringSize_0f7a4_24 : decode cJ6_stringSize_0f7a4 24 = .ok (.if_icmp .le 7, 3) := by decide +kernel
theorem dJ6_stringSize_0f7a4_27 : decode cJ6_stringSize_0f7a4 27 = .ok (.iload_n 3, 1) := by decide +kernel
theorem dJ6_stringSize_0f7a4_28 : decode cJ6_stringSize_0f7a4 28 = .ok (.iload_n 1, 1) := by decide +kernel
theorem dJ6_stringSize_0f7a4_29 : decode cJ6_stringSize_0f7a4 29 = .ok (.iadd, 1) := by decide +kernel
theorem dJ6_stringSize_0f7a4_30 : decode cJ6_stringSize_0f7a4 30 = .ok (.ireturn, 1) := by decide +kernel
theorem dJ6_stringSize_0f7a4_31 : decode cJ6_stringSize_0f7a4 31 = .ok (.bipush 10, 2) := by decide +kernel
theorem dJ6_stringSize_0f7a4_33 : decode cJ6_stringSize_0f7a4 33 = .ok (.iload_n 2, 1) := by decide +kernel
theorem dJ6_stringSize_0f7a4_34 : decode cJ6_stringSize_0f7a4 34 = .ok (.imul, 1) := by decide +kernel
theorem dJ6_stringSize_0f7a4_35 : decode cJ6_stringSize_0f7a4 35 = .ok (.istore_n 2, 1) := by decide +kernel
theorem dJ6_stringSize_0f7a4_36 : decode cJ6_stringSize_0f7a4 36 = .ok (.iinc 3 1, 3) := by decide +kernel
theorem dJ6_stringSize_0f7a4_39 : decode cJ6_stringSize_0f7a4 39 = .ok (.goto (-23), 3) := by decide +kernel
theorem dJ6_stringSize_0f7a4_42 : decode cJ6_stringSize_0f7a4 42 = .ok (.bipush 10, 2) := by decide +kernel
theorem dJ6_stringSize_0f7a4_44 : decode cJ6_stringSize_0f7a4 44 = .ok (.iload_n 1, 1) := by decide +kernel
theorem dJ6_stringSize_0f7a4_45 : decode cJ6_stringSize_0f7a4 45 = .ok (.iadd, 1) := by decide +kernel
theorem dJ6_stringSize_0f7a4_46 : decode cJ6_stringSize_0f7a4 46 = .ok (.ireturn, 1) := by decide +kernel
theorem dJ9_floorMod_7cf53_0 : decode cJ9_floorMod_7cf53 0 = .ok (.iload_n 0, 1) := by decide +kernel
theorem dJ9_floorMod_7cf53_1 : decode cJ9_floorMod_7cf53 1 = .ok (.iload_n 1, 1) := by decide +kernel
theorem dJ9_floorMod_7cf53_2 : decode cJ9_floorMod_7cf53 2 = .ok (.irem, 1) := by decide +kernel
theorem dJ9_floorMod_7cf53_3 : decode cJ9_floorMod_7cf53 3 = .ok (.istore_n 2, 1) := by decide +kernel
theorem dJ9_floorMod_7cf53_4 : decode cJ9_floorMod_7cf53 4 = .ok (.iload_n 0, 1) := by decide +kernel
theorem dJ9_floorMod_7cf53_5 : decode cJ9_floorMod_7cf53 5 = .ok (.iload_n 1, 1) := by decide +kernel
theorem dJ9_floorMod_7cf53_6 : decode cJ9_floorMod_7cf53 6 = .ok (.ixor, 1) := by decide +kernel
theorem dJ9_floorMod_7cf53_7 : decode cJ9_floorMod_7cf53 7 = .ok (.ifCond .ge 11, 3) := by decide +kernel
theorem dJ9_floorMod_7cf53_10 : decode cJ9_floorMod_7cf53 10 = .ok (.iload_n 2, 1) := by decide +kernel
theorem dJ9_floorMod_7cf53_11 : decode cJ9_floorMod_7cf53 11 = .ok (.ifCond .eq 7, 3) := by decide +kernel
theorem dJ9_floorMod_7cf53_14 : decode cJ9_floorMod_7cf53 14 = .ok (.iload_n 2, 1) := by decide +kernel
theorem dJ9_floorMod_7cf53_15 : decode cJ9_floorMod_7cf53 15 = .ok (.iload_n 1, 1) := by decide +kernel
theorem dJ9_floorMod_7cf53_16 : decode cJ9_floorMod_7cf53 16 = .ok (.iadd, 1) := by decide +kernel
theorem dJ9_floorMod_7cf53_17 : decode cJ9_floorMod_7cf53 17 = .ok (.ireturn, 1) := by decide +kernel
theorem dJ9_floorMod_7cf53_18 : decode cJ9_floorMod_7cf53 18 = .ok (.iload_n 2, 1) := by decide +kernel
theorem dJ9_floorMod_7cf53_19 : decode cJ9_floorMod_7cf53 19 = .ok (.ireturn, 1) := by decide +kernel
theorem dJ9_max_7cf53_0 : decode cJ9_max_7cf53 0 = .ok (.iload_n 0, 1) := by decide +kernel
theorem dJ9_max_7cf53_1 : decode cJ9_max_7cf53 1 = .ok (.iload_n 1, 1) := by decide +kernel
theorem dJ9_max_7cf53_2 : decode cJ9_max_7cf53 2 = .ok (.if_icmp .lt 7, 3) := by decide +kernel
theorem dJ9_max_7cf53_5 : decode cJ9_max_7cf53 5 = .ok (.iload_n 0, 1) := by decide +kernel
theorem dJ9_max_7cf53_6 : decode cJ9_max_7cf53 6 = .ok (.goto 4, 3) := by decide +kernel
theorem dJ9_max_7cf53_9 : decode cJ9_max_7cf53 9 = .ok (.iload_n 1, 1) := by decide +kernel
theorem dJ9_max_7cf53_10 : decode cJ9_max_7cf53 10 = .ok (.ireturn, 1) := by decide +kernel
theorem dJ9_min_7cf53_0 : decode cJ9_min_7cf53 0 = .ok (.iload_n 0, 1) := by decide +kernel
theorem dJ9_min_7cf53_1 : decode cJ9_min_7cf53 1 = .ok (.iload_n 1, 1) := by decide +kernel
theorem dJ9_min_7cf53_2 : decode cJ9_min_7cf53 2 = .ok (.if_icmp .gt 7, 3) := by decide +kernel
theorem dJ9_min_7cf53_5 : decode cJ9_min_7cf53 5 = .ok (.iload_n 0, 1) := by decide +kernel
theorem dJ9_min_7cf53_6 : decode cJ9_min_7cf53 6 = .ok (.goto 4, 3) := by decide +kernel
theorem dJ9_min_7cf53_9 : decode cJ9_min_7cf53 9 = .ok (.iload_n 1, 1) := by decide +kernel
theorem dJ9_min_7cf53_10 : decode cJ9_min_7cf53 10 = .ok (.ireturn, 1) := by decide +kernel
theorem dJ0_init_81219_0 : decode cJ0_init_81219 0 = .ok (.aload_n 0, 1) := by decide +kernel
theorem dJ0_init_81219_1 : decode cJ0_init_81219 1 = .ok (.aload_n 1, 1) := by decide +kernel
theorem dJ0_init_81219_2 : decode cJ0_init_81219 2 = .ok (.aconst_null, 1) := by decide +kernel
theorem dJ0_init_81219_3 : decode cJ0_init_81219 3 = .ok (.invokespecial 489, 3) := by decide +kernel
theorem dJ0_init_81219_6 : decode cJ0_init_81219 6 = .ok (.return_, 1) := by decide +kernel
theorem dJ0_length_8abf5_0 : decode cJ0_length_8abf5 0 = .ok (.aload_n 0, 1) := by decide +kernel
theorem dJ0_length_8abf5_1 : decode cJ0_length_8abf5 1 = .ok (.getfield 9, 3) := by decide +kernel
theorem dJ0_length_8abf5_4 : decode cJ0_length_8abf5 4 = .ok (.arraylength, 1) := by decide +kernel
theorem dJ0_length_8abf5_5 : decode cJ0_length_8abf5 5 = .ok (.aload_n 0, 1) := by decide +kernel
theorem dJ0_length_8abf5_6 : decode cJ0_length_8abf5 6 = .ok (.invokevirtual 335, 3) := by decide +kernel
theorem dJ0_length_8abf5_9 : decode cJ0_length_8abf5 9 = .ok (.ishr, 1) := by decide +kernel
theorem dJ0_length_8abf5_10 : decode cJ0_length_8abf5 10 = .ok (.ireturn, 1) := by decide +kernel
theorem dJ0_charAt_5068e_0 : decode cJ0_charAt_5068e 0 = .ok (.aload_n 0, 1) := by decide +kernel
theorem dJ0_charAt_5068e_1 : decode cJ0_charAt_5068e 1 = .ok (.invokevirtual 492, 3) := by decide +kernel
theorem dJ0_charAt_5068e_4 : decode cJ0_charAt_5068e 4 = .ok (.ifCond .eq 12, 3) := by decide +kernel
theorem dJ0_charAt_5068e_7 : decode cJ0_charAt_5068e 7 = .ok (.aload_n 0, 1) := by decide +kernel
theorem dJ0_charAt_5068e_8 : decode cJ0_charAt_5068e 8 = .ok (.getfield 9, 3) := by decide +kernel
theorem dJ0_charAt_5068e_11 : decode cJ0_charAt_5068e 11 = .ok (.iload_n 1, 1) := by decide +kernel
theorem dJ0_charAt_5068e_12 : decode cJ0_charAt_5068e 12 = .ok (.invokestatic 495, 3) := by decide +kernel
theorem dJ0_charAt_5068e_15 : decode cJ0_charAt_5068e 15 = .ok (.ireturn, 1) := by decide +kernel
theorem dJ0_charAt_5068e_16 : decode cJ0_charAt_5068e 16 = .ok (.aload_n 0, 1) := by decide +kernel
theorem dJ0_charAt_5068e_17 : decode cJ0_charAt_5068e 17 = .ok (.getfield 9, 3) := by decide +kernel
theorem dJ0_charAt_5068e_20 : decode cJ0_charAt_5068e 20 = .ok (.iload_n 1, 1) := by decide +kernel
theorem dJ0_charAt_5068e_21 : decode cJ0_charAt_5068e 21 = .ok (.invokestatic 498, 3) := by decide +kernel
theorem dJ0_charAt_5068e_24 : decode cJ0_charAt_5068e 24 = .ok (.ireturn, 1) := by decide +kernel
theorem dJ0_getBytes_840e7_0 : decode cJ0_getBytes_840e7 0 = .ok (.aload_n 0, 1) := by decide +kernel
theorem dJ0_getBytes_840e7_1 : decode cJ0_getBytes_840e7 1 = .ok (.invokevirtual 335, 3) := by decide +kernel
theorem dJ0_getBytes_840e7_4 : decode cJ0_getBytes_840e7 4 = .ok (.iload_n 3, 1) := by decide +kernel
theorem dJ0_getBytes_840e7_5 : decode cJ0_getBytes_840e7 5 = .ok (.if_icmp .ne 23, 3) := by decide +kernel
theorem dJ0_getBytes_840e7_8 : decode cJ0_getBytes_840e7 8 = .ok (.aload_n 0, 1) := by decide +kernel
theorem dJ0_getBytes_840e7_9 : decode cJ0_getBytes_840e7 9 = .ok (.getfield 9, 3) := by decide +kernel
theorem dJ0_getBytes_840e7_12 : decode cJ0_getBytes_840e7 12 = .ok (.iconst 0, 1) := by decide +kernel
theorem dJ0_getBytes_840e7_13 : decode cJ0_getBytes_840e7 13 = .ok (.aload_n 1, 1) := by decide +kernel
theorem dJ0_getBytes_840e7_14 : decode cJ0_getBytes_840e7 14 = .ok (.iload_n 2, 1) := by decide +kernel
theorem dJ0_getBytes_840e7_15 : decode cJ0_getBytes_840e7 15 = .ok (.iload_n 3, 1) := by decide +kernel
theorem dJ0_getBytes_840e7_16 : decode cJ0_getBytes_840e7 16 = .ok (.ishl, 1) := by decide +kernel
theorem dJ0_getBytes_840e7_17 : decode cJ0_getBytes_840e7 17 = .ok (.aload_n 0, 1) := by decide +kernel
theorem dJ0_getBytes_840e7_18 : decode cJ0_getBytes_840e7 18 = .ok (.getfield 9, 3) := by decide +kernel
theorem dJ0_getBytes_840e7_21 : decode cJ0_getBytes_840e7 21 = .ok (.arraylength, 1) := by decide +kernel
theorem dJ0_getBytes_840e7_22 : decode cJ0_getBytes_840e7 22 = .ok (.invokestatic 212, 3) := by decide +kernel
theorem dJ0_getBytes_840e7_25 : decode cJ0_getBytes_840e7 25 = .ok (.goto 18, 3) := by decide +kernel
theorem dJ0_getBytes_840e7_28 : decode cJ0_getBytes_840e7 28 = .ok (.aload_n 0, 1) := by decide +kernel
theorem dJ0_getBytes_840e7_29 : decode cJ0_getBytes_840e7 29 = .ok (.getfield 9, 3) := by decide +kernel
theorem dJ0_getBytes_840e7_32 : decode cJ0_getBytes_840e7 32 = .ok (.iconst 0, 1) := by decide +kernel
theorem dJ0_getBytes_840e7_33 : decode cJ0_getBytes_840e7 33 = .ok (.aload_n 1, 1) := by decide +kernel
theorem dJ0_getBytes_840e7_34 : decode cJ0_getBytes_840e7 34 = .ok (.iload_n 2, 1) := by decide +kernel
theorem dJ0_getBytes_840e7_35 : decode cJ0_getBytes_840e7 35 = .ok (.aload_n 0, 1) := by decide +kernel
theorem dJ0_getBytes_840e7_36 : decode cJ0_getBytes_840e7 36 = .ok (.getfield 9, 3) := by decide +kernel
theorem dJ0_getBytes_840e7_39 : decode cJ0_getBytes_840e7 39 = .ok (.arraylength, 1) := by decide +kernel
theorem dJ0_getBytes_840e7_40 : decode cJ0_getBytes_840e7 40 = .ok (.invokestatic 106, 3) := by decide +kernel
theorem dJ0_getBytes_840e7_43 : decode cJ0_getBytes_840e7 43 = .ok (.return_, 1) := by decide +kernel
theorem dJ0_init_db425_0 : decode cJ0_init_db425 0 = .ok (.aload_n 0, 1) := by decide +kernel
theorem dJ0_init_db425_1 : decode cJ0_init_db425 1 = .ok (.invokespecial 1, 3) := by decide +kernel
theorem dJ0_init_db425_4 : decode cJ0_init_db425 4 = .ok (.aload_n 1, 1) := by decide +kernel
theorem dJ0_init_db425_5 : decode cJ0_init_db425 5 = .ok (.invokevirtual 552, 3) := by decide +kernel
theorem dJ0_init_db425_8 : decode cJ0_init_db425 8 = .ok (.astore_n 3, 1) := by decide +kernel
theorem dJ0_init_db425_9 : decode cJ0_init_db425 9 = .ok (.aload_n 1, 1) := by decide +kernel
theorem dJ0_init_db425_10 : decode cJ0_init_db425 10 = .ok (.invokevirtual 549, 3) := by decide +kernel
theorem dJ0_init_db425_13 : decode cJ0_init_db425 13 = .ok (.istore 4, 2) := by decide +kernel
theorem dJ0_init_db425_15 : decode cJ0_init_db425 15 = .ok (.aload_n 1, 1) := by decide +kernel
theorem dJ0_init_db425_16 : decode cJ0_init_db425 16 = .ok (.invokevirtual 1047, 3) := by decide +kernel
theorem dJ0_init_db425_19 : decode cJ0_init_db425 19 = .ok (.ifCond .eq 22, 3) := by decide +kernel
theorem dJ0_init_db425_22 : decode cJ0_init_db425 22 = .ok (.aload_n 0, 1) := by decide +kernel
theorem dJ0_init_db425_23 : decode cJ0_init_db425 23 = .ok (.iconst 0, 1) := by decide +kernel
theorem dJ0_init_db425_24 : decode cJ0_init_db425 24 = .ok (.putfield 15, 3) := by decide +kernel
theorem dJ0_init_db425_27 : decode cJ0_init_db425 27 = .ok (.aload_n 0, 1) := by decide +kernel
theorem dJ0_init_db425_28 : decode cJ0_init_db425 28 = .ok (.aload_n 3, 1) := by decide +kernel
theorem dJ0_init_db425_29 : decode cJ0_init_db425 29 = .ok (.iconst 0, 1) := by decide +kernel
theorem dJ0_init_db425_30 : decode cJ0_init_db425 30 = .ok (.iload 4, 2) := by decide +kernel
theorem dJ0_init_db425_32 : decode cJ0_init_db425 32 = .ok (.invokestatic 54, 3) := by decide +kernel
theorem dJ0_init_db425_35 : decode cJ0_init_db425 35 = .ok (.putfield 9, 3) := by decide +kernel
theorem dJ0_init_db425_38 : decode cJ0_init_db425 38 = .ok (.goto 59, 3) := by decide +kernel
theorem dJ0_init_db425_41 : decode cJ0_init_db425 41 = .ok (.getstatic 38, 3) := by decide +kernel
theorem dJ0_init_db425_44 : decode cJ0_init_db425 44 = .ok (.ifCond .eq 35, 3) := by decide +kernel
theorem dJ0_init_db425_47 : decode cJ0_init_db425 47 = .ok (.aload_n 1, 1) := by decide +kernel
theorem dJ0_init_db425_48 : decode cJ0_init_db425 48 = .ok (.getfield 1048, 3) := by decide +kernel
theorem dJ0_init_db425_51 : decode cJ0_init_db425 51 = .ok (.ifCond .eq 28, 3) := by decide +kernel
theorem dJ0_init_db425_54 : decode cJ0_init_db425 54 = .ok (.aload_n 0, 1) := by decide +kernel
theorem dJ0_init_db425_55 : decode cJ0_init_db425 55 = .ok (.aload_n 3, 1) := by decide +kernel
theorem dJ0_init_db425_56 : decode cJ0_init_db425 56 = .ok (.iconst 0, 1) := by decide +kernel
theorem dJ0_init_db425_57 : decode cJ0_init_db425 57 = .ok (.iload 4, 2) := by decide +kernel
theorem dJ0_init_db425_59 : decode cJ0_init_db425 59 = .ok (.invokestatic 1051, 3) := by decide +kernel
theorem dJ0_init_db425_62 : decode cJ0_init_db425 62 = .ok (.putfield 9, 3) := by decide +kernel
theorem dJ0_init_db425_65 : decode cJ0_init_db425 65 = .ok (.aload_n 0, 1) := by decide +kernel
theorem dJ0_init_db425_66 : decode cJ0_init_db425 66 = .ok (.aload_n 0, 1) := by decide +kernel
theorem dJ0_init_db425_67 : decode cJ0_init_db425 67 = .ok (.getfield 9, 3) := by decide +kernel
theorem dJ0_init_db425_70 : decode cJ0_init_db425 70 = .ok (.iload 4, 2) := by decide +kernel
theorem dJ0_init_db425_72 : decode cJ0_init_db425 72 = .ok (.invokestatic 47, 3) := by decide +kernel
theorem dJ0_init_db425_75 : decode cJ0_init_db425 75 = .ok (.putfield 15, 3) := by decide +kernel
theorem dJ0_init_db425_78 : decode cJ0_init_db425 78 = .ok (.return_, 1) := by decide +kernel
theorem dJ0_init_db425_79 : decode cJ0_init_db425 79 = .ok (.aload_n 0, 1) := by decide +kernel
theorem dJ0_init_db425_80 : decode cJ0_init_db425 80 = .ok (.iconst 1, 1) := by decide +kernel
theorem dJ0_init_db425_81 : decode cJ0_init_db425 81 = .ok (.putfield 15, 3) := by decide +kernel
theorem dJ0_init_db425_84 : decode cJ0_init_db425 84 = .ok (.aload_n 0, 1) := by decide +kernel
theorem dJ0_init_db425_85 : decode cJ0_init_db425 85 = .ok (.aload_n 3, 1) := by decide +kernel
theorem dJ0_init_db425_86 : decode cJ0_init_db425 86 = .ok (.iconst 0, 1) := by decide +kernel
theorem dJ0_init_db425_87 : decode cJ0_init_db425 87 = .ok (.iload 4, 2) := by decide +kernel
theorem dJ0_init_db425_89 : decode cJ0_init_db425 89 = .ok (.iconst 1, 1) := by decide +kernel
theorem dJ0_init_db425_90 : decode cJ0_init_db425 90 = .ok (.ishl, 1) := by decide +kernel
theorem dJ0_init_db425_91 : decode cJ0_init_db425 91 = .ok (.invokestatic 54, 3) := by decide +kernel
theorem dJ0_init_db425_94 : decode cJ0_init_db425 94 = .ok (.putfield 9, 3) := by decide +kernel
theorem dJ0_init_db425_97 : decode cJ0_init_db425 97 = .ok (.return_, 1) := by decide +kernel
theorem dJ0_coder_7d493_0 : decode cJ0_coder_7d493 0 = .ok (.getstatic 38, 3) := by decide +kernel
theorem dJ0_coder_7d493_3 : decode cJ0_coder_7d493 3 = .ok (.ifCond .eq 10, 3) := by decide +kernel
theorem dJ0_coder_7d493_6 : decode cJ0_coder_7d493 6 = .ok (.aload_n 0, 1) := by decide +kernel
theorem dJ0_coder_7d493_7 : decode cJ0_coder_7d493 7 = .ok (.getfield 15, 3) := by decide +kernel
theorem dJ0_coder_7d493_10 : decode cJ0_coder_7d493 10 = .ok (.goto 4, 3) := by decide +kernel
theorem dJ0_coder_7d493_13 : decode cJ0_coder_7d493 13 = .ok (.iconst 1, 1) := by decide +kernel
theorem dJ0_coder_7d493_14 : decode cJ0_coder_7d493 14 = .ok (.ireturn, 1) := by decide +kernel
theorem dJ0_isLatin1_aae02_0 : decode cJ0_isLatin1_aae02 0 = .ok (.getstatic 38, 3) := by decide +kernel
theorem dJ0_isLatin1_aae02_3 : decode cJ0_isLatin1_aae02 3 = .ok (.ifCond .eq 14, 3) := by decide +kernel
theorem dJ0_isLatin1_aae02_6 : decode cJ0_isLatin1_aae02 6 = .ok (.aload_n 0, 1) := by decide +kernel
theorem dJ0_isLatin1_aae02_7 : decode cJ0_isLatin1_aae02 7 = .ok (.getfield 15, 3) := by decide +kernel
theorem dJ0_isLatin1_aae02_10 : decode cJ0_isLatin1_aae02 10 = .ok (.ifCond .ne 7, 3) := by decide +kernel
theorem dJ0_isLatin1_aae02_13 : decode cJ0_isLatin1_aae02 13 = .ok (.iconst 1, 1) := by decide +kernel
theorem dJ0_isLatin1_aae02_14 : decode cJ0_isLatin1_aae02 14 = .ok (.goto 4, 3) := by decide +kernel
theorem dJ0_isLatin1_aae02_17 : decode cJ0_isLatin1_aae02 17 = .ok (.iconst 0, 1) := by decide +kernel
theorem dJ0_isLatin1_aae02_18 : decode cJ0_isLatin1_aae02 18 = .ok (.ireturn, 1) := by decide +kernel
theorem dJ0_checkIndex_df160_0 : decode cJ0_checkIndex_df160 0 = .ok (.iload_n 0, 1) := by decide +kernel
theorem dJ0_checkIndex_df160_1 : decode cJ0_checkIndex_df160 1 = .ok (.iload_n 1, 1) := by decide +kernel
theorem dJ0_checkIndex_df160_2 : decode cJ0_checkIndex_df160 2 = .ok (.getstatic 1053, 3) := by decide +kernel
theorem dJ0_checkIndex_df160_5 : decode cJ0_checkIndex_df160 5 = .ok (.invokestatic 1059, 3) := by decide +kernel
theorem dJ0_checkIndex_df160_8 : decode cJ0_checkIndex_df160 8 = .ok (.pop, 1) := by decide +kernel
theorem dJ0_checkIndex_df160_9 : decode cJ0_checkIndex_df160 9 = .ok (.return_, 1) := by decide +kernel
theorem dJ0_checkBoundsOffCount_cabcc_0 : decode cJ0_checkBoundsOffCount_cabcc 0 = .ok (.iload_n 0, 1) := by decide +kernel
theorem dJ0_checkBoundsOffCount_cabcc_1 : decode cJ0_checkBoundsOffCount_cabcc 1 = .ok (.iload_n 1, 1) := by decide +kernel
theorem dJ0_checkBoundsOffCount_cabcc_2 : decode cJ0_checkBoundsOffCount_cabcc 2 = .ok (.iload_n 2, 1) := by decide +kernel
theorem dJ0_checkBoundsOffCount_cabcc_3 : decode cJ0_checkBoundsOffCount_cabcc 3 = .ok (.getstatic 1053, 3) := by decide +kernel
theorem dJ0_checkBoundsOffCount_cabcc_6 : decode cJ0_checkBoundsOffCount_cabcc 6 = .ok (.invokestatic 1065, 3) := by decide +kernel
theorem dJ0_checkBoundsOffCount_cabcc_9 : decode cJ0_checkBoundsOffCount_cabcc 9 = .ok (.ireturn, 1) := by decide +kernel
theorem dJ0_checkBoundsBeginEnd_23922_0 : decode cJ0_checkBoundsBeginEnd_23922 0 = .ok (.iload_n 0, 1) := by decide +kernel
theorem dJ0_checkBoundsBeginEnd_23922_1 : decode cJ0_checkBoundsBeginEnd_23922 1 = .ok (.iload_n 1, 1) := by decide +kernel
theorem dJ0_checkBoundsBeginEnd_23922_2 : decode cJ0_checkBoundsBeginEnd_23922 2 = .ok (.iload_n 2, 1) := by decide +kernel
theorem dJ0_checkBoundsBeginEnd_23922_3 : decode cJ0_checkBoundsBeginEnd_23922 3 = .ok (.getstatic 1053, 3) := by decide +kernel
theorem dJ0_checkBoundsBeginEnd_23922_6 : decode cJ0_checkBoundsBeginEnd_23922 6 = .ok (.invokestatic 1062, 3) := by decide +kernel
theorem dJ0_checkBoundsBeginEnd_23922_9 : decode cJ0_checkBoundsBeginEnd_23922 9 = .ok (.pop, 1) := by decide +kernel
theorem dJ0_checkBoundsBeginEnd_23922_10 : decode cJ0_checkBoundsBeginEnd_23922 10 = .ok (.return_, 1) := by decide +kernel
theorem dJ4_init_da8c8_0 : decode cJ4_init_da8c8 0 = .ok (.aload_n 0, 1) := by decide +kernel
theorem dJ4_init_da8c8_1 : decode cJ4_init_da8c8 1 = .ok (.bipush 16, 2) := by decide +kernel
theorem dJ4_init_da8c8_3 : decode cJ4_init_da8c8 3 = .ok (.invokespecial 1, 3) := by decide +kernel
theorem dJ4_init_da8c8_6 : decode cJ4_init_da8c8 6 = .ok (.return_, 1) := by decide +kernel
theorem dJ4_append_15ec4_0 : decode cJ4_append_15ec4 0 = .ok (.aload_n 0, 1) := by decide +kernel
theorem dJ4_append_15ec4_1 : decode cJ4_append_15ec4 1 = .ok (.aload_n 1, 1) := by decide +kernel
theorem dJ4_append_15ec4_2 : decode cJ4_append_15ec4 2 = .ok (.invokespecial 29, 3) := by decide +kernel
theorem dJ4_append_15ec4_5 : decode cJ4_append_15ec4 5 = .ok (.pop, 1) := by decide +kernel
theorem dJ4_append_15ec4_6 : decode cJ4_append_15ec4 6 = .ok (.aload_n 0, 1) := by decide +kernel
theorem dJ4_append_15ec4_7 : decode cJ4_append_15ec4 7 = .ok (.areturn, 1) := by decide +kernel
theorem dJ4_append_cf468_0 : decode cJ4_append_cf468 0 = .ok (.aload_n 0, 1) := by decide +kernel
theorem dJ4_append_cf468_1 : decode cJ4_append_cf468 1 = .ok (.iload_n 1, 1) := by decide +kernel
theorem dJ4_append_cf468_2 : decode cJ4_append_cf468 2 = .ok (.invokespecial 50, 3) := by decide +kernel
theorem dJ4_append_cf468_5 : decode cJ4_append_cf468 5 = .ok (.pop, 1) := by decide +kernel
theorem dJ4_append_cf468_6 : decode cJ4_append_cf468 6 = .ok (.aload_n 0, 1) := by decide +kernel
theorem dJ4_append_cf468_7 : decode cJ4_append_cf468 7 = .ok (.areturn, 1) := by decide +kernel
theorem dJ4_append_bf812_0 : decode cJ4_append_bf812 0 = .ok (.aload_n 0, 1) := by decide +kernel
theorem dJ4_append_bf812_1 : decode cJ4_append_bf812 1 = .ok (.iload_n 1, 1) := by decide +kernel
theorem dJ4_append_bf812_2 : decode cJ4_append_bf812 2 = .ok (.invokespecial 53, 3) := by decide +kernel
theorem dJ4_append_bf812_5 : decode cJ4_append_bf812 5 = .ok (.pop, 1) := by decide +kernel
theorem dJ4_append_bf812_6 : decode cJ4_append_bf812 6 = .ok (.aload_n 0, 1) := by decide +kernel
theorem dJ4_append_bf812_7 : decode cJ4_append_bf812 7 = .ok (.areturn, 1) := by decide +kernel
theorem dJ4_toString_0e30d_0 : decode cJ4_toString_0e30d 0 = .ok (.new 18, 3) := by decide +kernel
theorem dJ4_toString_0e30d_3 : decode cJ4_toString_0e30d 3 = .ok (.dup, 1) := by decide +kernel
theorem dJ4_toString_0e30d_4 : decode cJ4_toString_0e30d 4 = .ok (.aload_n 0, 1) := by decide +kernel
theorem dJ4_toString_0e30d_5 : decode cJ4_toString_0e30d 5 = .ok (.invokespecial 137, 3) := by decide +kernel
theorem dJ4_toString_0e30d_8 : decode cJ4_toString_0e30d 8 = .ok (.areturn, 1) := by decide +kernel
theorem dJ4_charAt_5068e_0 : decode cJ4_charAt_5068e 0 = .ok (.aload_n 0, 1) := by decide +kernel
theorem dJ4_charAt_5068e_1 : decode cJ4_charAt_5068e 1 = .ok (.iload_n 1, 1) := by decide +kernel
theorem dJ4_charAt_5068e_2 : decode cJ4_charAt_5068e 2 = .ok (.invokespecial 329, 3) := by decide +kernel
theorem dJ4_charAt_5068e_5 : decode cJ4_charAt_5068e 5 = .ok (.ireturn, 1) := by decide +kernel
theorem dJ4_setLength_d00df_0 : decode cJ4_setLength_d00df 0 = .ok (.aload_n 0, 1) := by decide +kernel
theorem dJ4_setLength_d00df_1 : decode cJ4_setLength_d00df 1 = .ok (.iload_n 1, 1) := by decide +kernel
theorem dJ4_setLength_d00df_2 : decode cJ4_setLength_d00df 2 = .ok (.invokespecial 333, 3) := by decide +kernel
theorem dJ4_setLength_d00df_5 : decode cJ4_setLength_d00df 5 = .ok (.return_, 1) := by decide +kernel
theorem dJ4_length_8abf5_0 : decode cJ4_length_8abf5 0 = .ok (.aload_n 0, 1) := by decide +kernel
theorem dJ4_length_8abf5_1 : decode cJ4_length_8abf5 1 = .ok (.invokespecial 343, 3) := by decide +kernel
theorem dJ4_length_8abf5_4 : decode cJ4_length_8abf5 4 = .ok (.ireturn, 1) := by decide +kernel
theorem dJx7c733_init_d00df_0 : decode cJx7c733_init_d00df 0 = .ok (.aload_n 0, 1) := by decide +kernel
theorem dJx7c733_init_d00df_1 : decode cJx7c733_init_d00df 1 = .ok (.new 10, 3) := by decide +kernel
theorem dJx7c733_init_d00df_4 : decode cJx7c733_init_d00df 4 = .ok (.dup, 1) := by decide +kernel
theorem dJx7c733_init_d00df_5 : decode cJx7c733_init_d00df 5 = .ok (.invokespecial 12, 3) := by decide +kernel
theorem dJx7c733_init_d00df_8 : decode cJx7c733_init_d00df 8 = .ok (.ldc 13, 2) := by decide +kernel
theorem dJx7c733_init_d00df_10 : decode cJx7c733_init_d00df 10 = .ok (.invokevirtual 15, 3) := by decide +kernel
theorem dJx7c733_init_d00df_13 : decode cJx7c733_init_d00df 13 = .ok (.iload_n 1, 1) := by decide +kernel
theorem dJx7c733_init_d00df_14 : decode cJx7c733_init_d00df 14 = .ok (.invokevirtual 19, 3) := by decide +kernel
theorem dJx7c733_init_d00df_17 : decode cJx7c733_init_d00df 17 = .ok (.invokevirtual 22, 3) := by decide +kernel
theorem dJx7c733_init_d00df_20 : decode cJx7c733_init_d00df 20 = .ok (.invokespecial 7, 3) := by decide +kernel
theorem dJx7c733_init_d00df_23 : decode cJx7c733_init_d00df 23 = .ok (.return_, 1) := by decide +kernel
theorem dJ1_charAt_3b067_0 : decode cJ1_charAt_3b067 0 = .ok (.iload_n 1, 1) := by decide +kernel
theorem dJ1_charAt_3b067_1 : decode cJ1_charAt_3b067 1 = .ok (.aload_n 0, 1) := by decide +kernel
theorem dJ1_charAt_3b067_2 : decode cJ1_charAt_3b067 2 = .ok (.arraylength, 1) := by decide +kernel
theorem dJ1_charAt_3b067_3 : decode cJ1_charAt_3b067 3 = .ok (.invokestatic 9, 3) := by decide +kernel
theorem dJ1_charAt_3b067_6 : decode cJ1_charAt_3b067 6 = .ok (.aload_n 0, 1) := by decide +kernel
theorem dJ1_charAt_3b067_7 : decode cJ1_charAt_3b067 7 = .ok (.iload_n 1, 1) := by decide +kernel
theorem dJ1_charAt_3b067_8 : decode cJ1_charAt_3b067 8 = .ok (.baload, 1) := by decide +kernel
theorem dJ1_charAt_3b067_9 : decode cJ1_charAt_3b067 9 = .ok (.sipush 255, 3) := by decide +kernel
theorem dJ1_charAt_3b067_12 : decode cJ1_charAt_3b067 12 = .ok (.iand, 1) := by decide +kernel
theorem dJ1_charAt_3b067_13 : decode cJ1_charAt_3b067 13 = .ok (.i2c, 1) := by decide +kernel
theorem dJ1_charAt_3b067_14 : decode cJ1_charAt_3b067 14 = .ok (.ireturn, 1) := by decide +kernel
theorem dJ1_canEncode_fc78d_0 : decode cJ1_canEncode_fc78d 0 = .ok (.iload_n 0, 1) := by decide +kernel
theorem dJ1_canEncode_fc78d_1 : decode cJ1_canEncode_fc78d 1 = .ok (.sipush 255, 3) := by decide +kernel
theorem dJ1_canEncode_fc78d_4 : decode cJ1_canEncode_fc78d 4 = .ok (.if_icmp .gt 7, 3) := by decide +kernel
theorem dJ1_canEncode_fc78d_7 : decode cJ1_canEncode_fc78d 7 = .ok (.iconst 1, 1) := by decide +kernel
theorem dJ1_canEncode_fc78d_8 : decode cJ1_canEncode_fc78d 8 = .ok (.goto 4, 3) := by decide +kernel
theorem dJ1_canEncode_fc78d_11 : decode cJ1_canEncode_fc78d 11 = .ok (.iconst 0, 1) := by decide +kernel
theorem dJ1_canEncode_fc78d_12 : decode cJ1_canEncode_fc78d 12 = .ok (.ireturn, 1) := by decide +kernel
theorem dJ1_fillNull_b72d1_0 : decode cJ1_fillNull_b72d1 0 = .ok (.aload_n 0, 1) := by decide +kernel
theorem dJ1_fillNull_b72d1_1 : decode cJ1_fillNull_b72d1 1 = .ok (.iload_n 1, 1) := by decide +kernel
theorem dJ1_fillNull_b72d1_2 : decode cJ1_fillNull_b72d1 2 = .ok (.iload_n 2, 1) := by decide +kernel
theorem dJ1_fillNull_b72d1_3 : decode cJ1_fillNull_b72d1 3 = .ok (.iconst 0, 1) := by decide +kernel
theorem dJ1_fillNull_b72d1_4 : decode cJ1_fillNull_b72d1 4 = .ok (.invokestatic 236, 3) := by decide +kernel
theorem dJ1_fillNull_b72d1_7 : decode cJ1_fillNull_b72d1 7 = .ok (.return_, 1) := by decide +kernel
theorem dJ1_inflate_0e8fd_0 : decode cJ1_inflate_0e8fd 0 = .ok (.aload_n 0, 1) := by decide +kernel
theorem dJ1_inflate_0e8fd_1 : decode cJ1_inflate_0e8fd 1 = .ok (.iload_n 1, 1) := by decide +kernel
theorem dJ1_inflate_0e8fd_2 : decode cJ1_inflate_0e8fd 2 = .ok (.aload_n 2, 1) := by decide +kernel
theorem dJ1_inflate_0e8fd_3 : decode cJ1_inflate_0e8fd 3 = .ok (.iload_n 3, 1) := by decide +kernel
theorem dJ1_inflate_0e8fd_4 : decode cJ1_inflate_0e8fd 4 = .ok (.iload 4, 2) := by decide +kernel
theorem dJ1_inflate_0e8fd_6 : decode cJ1_inflate_0e8fd 6 = .ok (.invokestatic 240, 3) := by decide +kernel
theorem dJ1_inflate_0e8fd_9 : decode cJ1_inflate_0e8fd 9 = .ok (.return_, 1) := by decide +kernel
theorem dJ2_newBytesFor_77867_0 : decode cJ2_newBytesFor_77867 0 = .ok (.iload_n 0, 1) := by decide +kernel
theorem dJ2_newBytesFor_77867_1 : decode cJ2_newBytesFor_77867 1 = .ok (.invokestatic 11, 3) := by decide +kernel
theorem dJ2_newBytesFor_77867_4 : decode cJ2_newBytesFor_77867 4 = .ok (.newarray .byte, 2) := by decide +kernel
theorem dJ2_newBytesFor_77867_6 : decode cJ2_newBytesFor_77867 6 = .ok (.areturn, 1) := by decide +kernel
theorem dJ2_newBytesLength_0f7a4_0 : decode cJ2_newBytesLength_0f7a4 0 = .ok (.iload_n 0, 1) := by decide +kernel
theorem dJ2_newBytesLength_0f7a4_1 : decode cJ2_newBytesLength_0f7a4 1 = .ok (.ifCond .ge 11, 3) := by decide +kernel
theorem dJ2_newBytesLength_0f7a4_4 : decode cJ2_newBytesLength_0f7a4 4 = .ok (.new 17, 3) := by decide +kernel
theorem dJ2_newBytesLength_0f7a4_7 : decode cJ2_newBytesLength_0f7a4 7 = .ok (.dup, 1) := by decide +kernel
theorem dJ2_newBytesLength_0f7a4_8 : decode cJ2_newBytesLength_0f7a4 8 = .ok (.invokespecial 19, 3) := by decide +kernel
theorem dJ2_newBytesLength_0f7a4_11 : decode cJ2_newBytesLength_0f7a4 11 = .ok (.athrow, 1) := by decide +kernel
theorem dJ2_newBytesLength_0f7a4_12 : decode cJ2_newBytesLength_0f7a4 12 = .ok (.iload_n 0, 1) := by decide +kernel
theorem dJ2_newBytesLength_0f7a4_13 : decode cJ2_newBytesLength_0f7a4 13 = .ok (.ldc 20, 2) := by decide +kernel
theorem dJ2_newBytesLength_0f7a4_15 : decode cJ2_newBytesLength_0f7a4 15 = .ok (.if_icmp .lt 40, 3) := by decide +kernel
theorem dJ2_newBytesLength_0f7a4_18 : decode cJ2_newBytesLength_0f7a4 18 = .ok (.new 21, 3) := by decide +kernel
theorem dJ2_newBytesLength_0f7a4_21 : decode cJ2_newBytesLength_0f7a4 21 = .ok (.dup, 1) := by decide +kernel
theorem dJ2_newBytesLength_0f7a4_22 : decode cJ2_newBytesLength_0f7a4 22 = .ok (.new 23, 3) := by decide +kernel
theorem dJ2_newBytesLength_0f7a4_25 : decode cJ2_newBytesLength_0f7a4 25 = .ok (.dup, 1) := by decide +kernel
theorem dJ2_newBytesLength_0f7a4_26 : decode cJ2_newBytesLength_0f7a4 26 = .ok (.invokespecial 25, 3) := by decide +kernel
theorem dJ2_newBytesLength_0f7a4_29 : decode cJ2_newBytesLength_0f7a4 29 = .ok (.ldc 26, 2) := by decide +kernel
theorem dJ2_newBytesLength_0f7a4_31 : decode cJ2_newBytesLength_0f7a4 31 = .ok (.invokevirtual 28, 3) := by decide +kernel
theorem dJ2_newBytesLength_0f7a4_34 : decode cJ2_newBytesLength_0f7a4 34 = .ok (.iload_n 0, 1) := by decide +kernel
theorem dJ2_newBytesLength_0f7a4_35 : decode cJ2_newBytesLength_0f7a4 35 = .ok (.invokevirtual 32, 3) := by decide +kernel
theorem dJ2_newBytesLength_0f7a4_38 : decode cJ2_newBytesLength_0f7a4 38 = .ok (.ldc 35, 2) := by decide +kernel
theorem dJ2_newBytesLength_0f7a4_40 : decode cJ2_newBytesLength_0f7a4 40 = .ok (.invokevirtual 28, 3) := by decide +kernel
theorem dJ2_newBytesLength_0f7a4_43 : decode cJ2_newBytesLength_0f7a4 43 = .ok (.ldc 20, 2) := by decide +kernel
theorem dJ2_newBytesLength_0f7a4_45 : decode cJ2_newBytesLength_0f7a4 45 = .ok (.invokevirtual 32, 3) := by decide +kernel
theorem dJ2_newBytesLength_0f7a4_48 : decode cJ2_newBytesLength_0f7a4 48 = .ok (.invokevirtual 37, 3) := by decide +kernel
theorem dJ2_newBytesLength_0f7a4_51 : decode cJ2_newBytesLength_0f7a4 51 = .ok (.invokespecial 41, 3) := by decide +kernel
theorem dJ2_newBytesLength_0f7a4_54 : decode cJ2_newBytesLength_0f7a4 54 = .ok (.athrow, 1) := by decide +kernel
theorem dJ2_newBytesLength_0f7a4_55 : decode cJ2_newBytesLength_0f7a4 55 = .ok (.iload_n 0, 1) := by decide +kernel
theorem dJ2_newBytesLength_0f7a4_56 : decode cJ2_newBytesLength_0f7a4 56 = .ok (.iconst 1, 1) := by decide +kernel
theorem dJ2_newBytesLength_0f7a4_57 : decode cJ2_newBytesLength_0f7a4 57 = .ok (.ishl, 1) := by decide +kernel
theorem dJ2_newBytesLength_0f7a4_58 : decode cJ2_newBytesLength_0f7a4 58 = .ok (.ireturn, 1) := by decide +kernel
theorem dJ2_putChar_b72d1_0 : decode cJ2_putChar_b72d1 0 = .ok (.getstatic 44, 3) := by decide +kernel
theorem dJ2_putChar_b72d1_3 : decode cJ2_putChar_b72d1 3 = .ok (.ifCond .ne 25, 3) := by decide +kernel
theorem dJ2_putChar_b72d1_6 : decode cJ2_putChar_b72d1 6 = .ok (.iload_n 1, 1) := by decide +kernel
theorem dJ2_putChar_b72d1_7 : decode cJ2_putChar_b72d1 7 = .ok (.ifCond .lt 11, 3) := by decide +kernel
theorem dJ2_putChar_b72d1_10 : decode cJ2_putChar_b72d1 10 = .ok (.iload_n 1, 1) := by decide +kernel
theorem dJ2_putChar_b72d1_11 : decode cJ2_putChar_b72d1 11 = .ok (.aload_n 0, 1) := by decide +kernel
theorem dJ2_putChar_b72d1_12 : decode cJ2_putChar_b72d1 12 = .ok (.invokestatic 48, 3) := by decide +kernel
theorem dJ2_putChar_b72d1_15 : decode cJ2_putChar_b72d1 15 = .ok (.if_icmp .lt 13, 3) := by decide +kernel
theorem dJ2_putChar_b72d1_18 : decode cJ2_putChar_b72d1 18 = .ok (.new 52, 3) := by decide +kernel
theorem dJ2_putChar_b72d1_21 : decode cJ2_putChar_b72d1 21 = .ok (.dup, 1) := by decide +kernel
theorem dJ2_putChar_b72d1_22 : decode cJ2_putChar_b72d1 22 = .ok (.ldc 54, 2) := by decide +kernel
theorem dJ2_putChar_b72d1_24 : decode cJ2_putChar_b72d1 24 = .ok (.invokespecial 56, 3) := by decide +kernel
theorem dJ2_putChar_b72d1_27 : decode cJ2_putChar_b72d1 27 = .ok (.athrow, 1) := by decide +kernel
theorem dJ2_putChar_b72d1_28 : decode cJ2_putChar_b72d1 28 = .ok (.iload_n 1, 1) := by decide +kernel
theorem dJ2_putChar_b72d1_29 : decode cJ2_putChar_b72d1 29 = .ok (.iconst 1, 1) := by decide +kernel
theorem dJ2_putChar_b72d1_30 : decode cJ2_putChar_b72d1 30 = .ok (.ishl, 1) := by decide +kernel
theorem dJ2_putChar_b72d1_31 : decode cJ2_putChar_b72d1 31 = .ok (.istore_n 1, 1) := by decide +kernel
theorem dJ2_putChar_b72d1_32 : decode cJ2_putChar_b72d1 32 = .ok (.aload_n 0, 1) := by decide +kernel
theorem dJ2_putChar_b72d1_33 : decode cJ2_putChar_b72d1 33 = .ok (.iload_n 1, 1) := by decide +kernel
theorem dJ2_putChar_b72d1_34 : decode cJ2_putChar_b72d1 34 = .ok (.iinc 1 1, 3) := by decide +kernel
theorem dJ2_putChar_b72d1_37 : decode cJ2_putChar_b72d1 37 = .ok (.iload_n 2, 1) := by decide +kernel
theorem dJ2_putChar_b72d1_38 : decode cJ2_putChar_b72d1 38 = .ok (.getstatic 59, 3) := by decide +kernel
theorem dJ2_putChar_b72d1_41 : decode cJ2_putChar_b72d1 41 = .ok (.ishr, 1) := by decide +kernel
theorem dJ2_putChar_b72d1_42 : decode cJ2_putChar_b72d1 42 = .ok (.i2b, 1) := by decide +kernel
theorem dJ2_putChar_b72d1_43 : decode cJ2_putChar_b72d1 43 = .ok (.bastore, 1) := by decide +kernel
theorem dJ2_putChar_b72d1_44 : decode cJ2_putChar_b72d1 44 = .ok (.aload_n 0, 1) := by decide +kernel
theorem dJ2_putChar_b72d1_45 : decode cJ2_putChar_b72d1 45 = .ok (.iload_n 1, 1) := by decide +kernel
theorem dJ2_putChar_b72d1_46 : decode cJ2_putChar_b72d1 46 = .ok (.iload_n 2, 1) := by decide +kernel
theorem dJ2_putChar_b72d1_47 : decode cJ2_putChar_b72d1 47 = .ok (.getstatic 63, 3) := by decide +kernel
theorem dJ2_putChar_b72d1_50 : decode cJ2_putChar_b72d1 50 = .ok (.ishr, 1) := by decide +kernel
theorem dJ2_putChar_b72d1_51 : decode cJ2_putChar_b72d1 51 = .ok (.i2b, 1) := by decide +kernel
theorem dJ2_putChar_b72d1_52 : decode cJ2_putChar_b72d1 52 = .ok (.bastore, 1) := by decide +kernel
theorem dJ2_putChar_b72d1_53 : decode cJ2_putChar_b72d1 53 = .ok (.return_, 1) := by decide +kernel
theorem dJ2_getChar_3b067_0 : decode cJ2_getChar_3b067 0 = .ok (.getstatic 44, 3) := by decide +kernel
theorem dJ2_getChar_3b067_3 : decode cJ2_getChar_3b067 3 = .ok (.ifCond .ne 25, 3) := by decide +kernel
theorem dJ2_getChar_3b067_6 : decode cJ2_getChar_3b067 6 = .ok (.iload_n 1, 1) := by decide +kernel
theorem dJ2_getChar_3b067_7 : decode cJ2_getChar_3b067 7 = .ok (.ifCond .lt 11, 3) := by decide +kernel
theorem dJ2_getChar_3b067_10 : decode cJ2_getChar_3b067 10 = .ok (.iload_n 1, 1) := by decide +kernel
theorem dJ2_getChar_3b067_11 : decode cJ2_getChar_3b067 11 = .ok (.aload_n 0, 1) := by decide +kernel
theorem dJ2_getChar_3b067_12 : decode cJ2_getChar_3b067 12 = .ok (.invokestatic 48, 3) := by decide +kernel
theorem dJ2_getChar_3b067_15 : decode cJ2_getChar_3b067 15 = .ok (.if_icmp .lt 13, 3) := by decide +kernel
theorem dJ2_getChar_3b067_18 : decode cJ2_getChar_3b067 18 = .ok (.new 52, 3) := by decide +kernel
theorem dJ2_getChar_3b067_21 : decode cJ2_getChar_3b067 21 = .ok (.dup, 1) := by decide +kernel
theorem dJ2_getChar_3b067_22 : decode cJ2_getChar_3b067 22 = .ok (.ldc 54, 2) := by decide +kernel
theorem dJ2_getChar_3b067_24 : decode cJ2_getChar_3b067 24 = .ok (.invokespecial 56, 3) := by decide +kernel
theorem dJ2_getChar_3b067_27 : decode cJ2_getChar_3b067 27 = .ok (.athrow, 1) := by decide +kernel
theorem dJ2_getChar_3b067_28 : decode cJ2_getChar_3b067 28 = .ok (.iload_n 1, 1) := by decide +kernel
theorem dJ2_getChar_3b067_29 : decode cJ2_getChar_3b067 29 = .ok (.iconst 1, 1) := by decide +kernel
theorem dJ2_getChar_3b067_30 : decode cJ2_getChar_3b067 30 = .ok (.ishl, 1) := by decide +kernel
theorem dJ2_getChar_3b067_31 : decode cJ2_getChar_3b067 31 = .ok (.istore_n 1, 1) := by decide +kernel
theorem dJ2_getChar_3b067_32 : decode cJ2_getChar_3b067 32 = .ok (.aload_n 0, 1) := by decide +kernel
theorem dJ2_getChar_3b067_33 : decode cJ2_getChar_3b067 33 = .ok (.iload_n 1, 1) := by decide +kernel
theorem dJ2_getChar_3b067_34 : decode cJ2_getChar_3b067 34 = .ok (.iinc 1 1, 3) := by decide +kernel
theorem dJ2_getChar_3b067_37 : decode cJ2_getChar_3b067 37 = .ok (.baload, 1) := by decide +kernel
theorem dJ2_getChar_3b067_38 : decode cJ2_getChar_3b067 38 = .ok (.sipush 255, 3) := by decide +kernel
theorem dJ2_getChar_3b067_41 : decode cJ2_getChar_3b067 41 = .ok (.iand, 1) := by decide +kernel
theorem dJ2_getChar_3b067_42 : decode cJ2_getChar_3b067 42 = .ok (.getstatic 59, 3) := by decide +kernel
theorem dJ2_getChar_3b067_45 : decode cJ2_getChar_3b067 45 = .ok (.ishl, 1) := by decide +kernel
theorem dJ2_getChar_3b067_46 : decode cJ2_getChar_3b067 46 = .ok (.aload_n 0, 1) := by decide +kernel
theorem dJ2_getChar_3b067_47 : decode cJ2_getChar_3b067 47 = .ok (.iload_n 1, 1) := by decide +kernel
theorem dJ2_getChar_3b067_48 : decode cJ2_getChar_3b067 48 = .ok (.baload, 1) := by decide +kernel
theorem dJ2_getChar_3b067_49 : decode cJ2_getChar_3b067 49 = .ok (.sipush 255, 3) := by decide +kernel
theorem dJ2_getChar_3b067_52 : decode cJ2_getChar_3b067 52 = .ok (.iand, 1) := by decide +kernel
theorem dJ2_getChar_3b067_53 : decode cJ2_getChar_3b067 53 = .ok (.getstatic 63, 3) := by decide +kernel
theorem dJ2_getChar_3b067_56 : decode cJ2_getChar_3b067 56 = .ok (.ishl, 1) := by decide +kernel
theorem dJ2_getChar_3b067_57 : decode cJ2_getChar_3b067 57 = .ok (.ior, 1) := by decide +kernel
theorem dJ2_getChar_3b067_58 : decode cJ2_getChar_3b067 58 = .ok (.i2c, 1) := by decide +kernel
theorem dJ2_getChar_3b067_59 : decode cJ2_getChar_3b067 59 = .ok (.ireturn, 1) := by decide +kernel
theorem dJ2_length_9d52b_0 : decode cJ2_length_9d52b 0 = .ok (.aload_n 0, 1) := by decide +kernel
theorem dJ2_length_9d52b_1 : decode cJ2_length_9d52b 1 = .ok (.arraylength, 1) := by decide +kernel
theorem dJ2_length_9d52b_2 : decode cJ2_length_9d52b 2 = .ok (.iconst 1, 1) := by decide +kernel
theorem dJ2_length_9d52b_3 : decode cJ2_length_9d52b 3 = .ok (.ishr, 1) := by decide +kernel
theorem dJ2_length_9d52b_4 : decode cJ2_length_9d52b 4 = .ok (.ireturn, 1) := by decide +kernel
theorem dJ2_coderFromArrayLen_85cad_0 : decode cJ2_coderFromArrayLen_85cad 0 = .ok (.iload_n 1, 1) := by decide +kernel
theorem dJ2_coderFromArrayLen_85cad_1 : decode cJ2_coderFromArrayLen_85cad 1 = .ok (.aload_n 0, 1) := by decide +kernel
theorem dJ2_coderFromArrayLen_85cad_2 : decode cJ2_coderFromArrayLen_85cad 2 = .ok (.arraylength, 1) := by decide +kernel
theorem dJ2_coderFromArrayLen_85cad_3 : decode cJ2_coderFromArrayLen_85cad 3 = .ok (.isub, 1) := by decide +kernel
theorem dJ2_coderFromArrayLen_85cad_4 : decode cJ2_coderFromArrayLen_85cad 4 = .ok (.bipush 31, 2) := by decide +kernel
theorem dJ2_coderFromArrayLen_85cad_6 : decode cJ2_coderFromArrayLen_85cad 6 = .ok (.iushr, 1) := by decide +kernel
theorem dJ2_coderFromArrayLen_85cad_7 : decode cJ2_coderFromArrayLen_85cad 7 = .ok (.i2b, 1) := by decide +kernel
theorem dJ2_coderFromArrayLen_85cad_8 : decode cJ2_coderFromArrayLen_85cad 8 = .ok (.ireturn, 1) := by decide +kernel
theorem dJ2_compress_39247_0 : decode cJ2_compress_39247 0 = .ok (.iload_n 2, 1) := by decide +kernel
theorem dJ2_compress_39247_1 : decode cJ2_compress_39247 1 = .ok (.newarray .byte, 2) := by decide +kernel
theorem dJ2_compress_39247_3 : decode cJ2_compress_39247 3 = .ok (.astore_n 3, 1) := by decide +kernel
theorem dJ2_compress_39247_4 : decode cJ2_compress_39247 4 = .ok (.aload_n 0, 1) := by decide +kernel
theorem dJ2_compress_39247_5 : decode cJ2_compress_39247 5 = .ok (.iload_n 1, 1) := by decide +kernel
theorem dJ2_compress_39247_6 : decode cJ2_compress_39247 6 = .ok (.aload_n 3, 1) := by decide +kernel
theorem dJ2_compress_39247_7 : decode cJ2_compress_39247 7 = .ok (.iconst 0, 1) := by decide +kernel
theorem dJ2_compress_39247_8 : decode cJ2_compress_39247 8 = .ok (.iload_n 2, 1) := by decide +kernel
theorem dJ2_compress_39247_9 : decode cJ2_compress_39247 9 = .ok (.invokestatic 123, 3) := by decide +kernel
theorem dJ2_compress_39247_12 : decode cJ2_compress_39247 12 = .ok (.istore 4, 2) := by decide +kernel
theorem dJ2_compress_39247_14 : decode cJ2_compress_39247 14 = .ok (.iload 4, 2) := by decide +kernel
theorem dJ2_compress_39247_16 : decode cJ2_compress_39247 16 = .ok (.iload_n 2, 1) := by decide +kernel
theorem dJ2_compress_39247_17 : decode cJ2_compress_39247 17 = .ok (.if_icmp .eq 47, 3) := by decide +kernel
theorem dJ2_compress_39247_20 : decode cJ2_compress_39247 20 = .ok (.aload_n 0, 1) := by decide +kernel
theorem dJ2_compress_39247_21 : decode cJ2_compress_39247 21 = .ok (.iload_n 1, 1) := by decide +kernel
theorem dJ2_compress_39247_22 : decode cJ2_compress_39247 22 = .ok (.iconst 1, 1) := by decide +kernel
theorem dJ2_compress_39247_23 : decode cJ2_compress_39247 23 = .ok (.ishl, 1) := by decide +kernel
theorem dJ2_compress_39247_24 : decode cJ2_compress_39247 24 = .ok (.iload_n 1, 1) := by decide +kernel
theorem dJ2_compress_39247_25 : decode cJ2_compress_39247 25 = .ok (.iload_n 2, 1) := by decide +kernel
theorem dJ2_compress_39247_26 : decode cJ2_compress_39247 26 = .ok (.iadd, 1) := by decide +kernel
theorem dJ2_compress_39247_27 : decode cJ2_compress_39247 27 = .ok (.invokestatic 11, 3) := by decide +kernel
theorem dJ2_compress_39247_30 : decode cJ2_compress_39247 30 = .ok (.invokestatic 126, 3) := by decide +kernel
theorem dJ2_compress_39247_33 : decode cJ2_compress_39247 33 = .ok (.astore 5, 2) := by decide +kernel
theorem dJ2_compress_39247_35 : decode cJ2_compress_39247 35 = .ok (.aload 5, 2) := by decide +kernel
theorem dJ2_compress_39247_37 : decode cJ2_compress_39247 37 = .ok (.iload 4, 2) := by decide +kernel
theorem dJ2_compress_39247_39 : decode cJ2_compress_39247 39 = .ok (.invokestatic 71, 3) := by decide +kernel
theorem dJ2_compress_39247_42 : decode cJ2_compress_39247 42 = .ok (.sipush 255, 3) := by decide +kernel
theorem dJ2_compress_39247_45 : decode cJ2_compress_39247 45 = .ok (.if_icmp .gt 16, 3) := by decide +kernel
theorem dJ2_compress_39247_48 : decode cJ2_compress_39247 48 = .ok (.aload 5, 2) := by decide +kernel
theorem dJ2_compress_39247_50 : decode cJ2_compress_39247 50 = .ok (.iconst 0, 1) := by decide +kernel
theorem dJ2_compress_39247_51 : decode cJ2_compress_39247 51 = .ok (.aload_n 3, 1) := by decide +kernel
theorem dJ2_compress_39247_52 : decode cJ2_compress_39247 52 = .ok (.iconst 0, 1) := by decide +kernel
theorem dJ2_compress_39247_53 : decode cJ2_compress_39247 53 = .ok (.iload_n 2, 1) := by decide +kernel
theorem dJ2_compress_39247_54 : decode cJ2_compress_39247 54 = .ok (.invokestatic 123, 3) := by decide +kernel
theorem dJ2_compress_39247_57 : decode cJ2_compress_39247 57 = .ok (.iload_n 2, 1) := by decide +kernel
theorem dJ2_compress_39247_58 : decode cJ2_compress_39247 58 = .ok (.if_icmp .eq 6, 3) := by decide +kernel
theorem dJ2_compress_39247_61 : decode cJ2_compress_39247 61 = .ok (.aload 5, 2) := by decide +kernel
theorem dJ2_compress_39247_63 : decode cJ2_compress_39247 63 = .ok (.areturn, 1) := by decide +kernel
theorem dJ2_compress_39247_64 : decode cJ2_compress_39247 64 = .ok (.aload_n 3, 1) := by decide +kernel
theorem dJ2_compress_39247_65 : decode cJ2_compress_39247 65 = .ok (.areturn, 1) := by decide +kernel
theorem dJ2_compress_5af95_0 : decode cJ2_compress_5af95 0 = .ok (.iload_n 1, 1) := by decide +kernel
theorem dJ2_compress_5af95_1 : decode cJ2_compress_5af95 1 = .ok (.iload 4, 2) := by decide +kernel
theorem dJ2_compress_5af95_3 : decode cJ2_compress_5af95 3 = .ok (.aload_n 0, 1) := by decide +kernel
theorem dJ2_compress_5af95_4 : decode cJ2_compress_5af95 4 = .ok (.invokestatic 173, 3) := by decide +kernel
theorem dJ2_compress_5af95_7 : decode cJ2_compress_5af95 7 = .ok (.iconst 0, 1) := by decide +kernel
theorem dJ2_compress_5af95_8 : decode cJ2_compress_5af95 8 = .ok (.istore 5, 2) := by decide +kernel
theorem dJ2_compress_5af95_10 : decode cJ2_compress_5af95 10 = .ok (.iload 5, 2) := by decide +kernel
theorem dJ2_compress_5af95_12 : decode cJ2_compress_5af95 12 = .ok (.iload 4, 2) := by decide +kernel
theorem dJ2_compress_5af95_14 : decode cJ2_compress_5af95 14 = .ok (.if_icmp .ge 39, 3) := by decide +kernel
theorem dJ2_compress_5af95_17 : decode cJ2_compress_5af95 17 = .ok (.aload_n 0, 1) := by decide +kernel
theorem dJ2_compress_5af95_18 : decode cJ2_compress_5af95 18 = .ok (.iload_n 1, 1) := by decide +kernel
theorem dJ2_compress_5af95_19 : decode cJ2_compress_5af95 19 = .ok (.invokestatic 71, 3) := by decide +kernel
theorem dJ2_compress_5af95_22 : decode cJ2_compress_5af95 22 = .ok (.istore 6, 2) := by decide +kernel
theorem dJ2_compress_5af95_24 : decode cJ2_compress_5af95 24 = .ok (.iload 6, 2) := by decide +kernel
theorem dJ2_compress_5af95_26 : decode cJ2_compress_5af95 26 = .ok (.sipush 255, 3) := by decide +kernel
theorem dJ2_compress_5af95_29 : decode cJ2_compress_5af95 29 = .ok (.if_icmp .le 6, 3) := by decide +kernel
theorem dJ2_compress_5af95_32 : decode cJ2_compress_5af95 32 = .ok (.iload 5, 2) := by decide +kernel
theorem dJ2_compress_5af95_34 : decode cJ2_compress_5af95 34 = .ok (.ireturn, 1) := by decide +kernel
theorem dJ2_compress_5af95_35 : decode cJ2_compress_5af95 35 = .ok (.aload_n 2, 1) := by decide +kernel
theorem dJ2_compress_5af95_36 : decode cJ2_compress_5af95 36 = .ok (.iload_n 3, 1) := by decide +kernel
theorem dJ2_compress_5af95_37 : decode cJ2_compress_5af95 37 = .ok (.iload 6, 2) := by decide +kernel
theorem dJ2_compress_5af95_39 : decode cJ2_compress_5af95 39 = .ok (.i2b, 1) := by decide +kernel
theorem dJ2_compress_5af95_40 : decode cJ2_compress_5af95 40 = .ok (.bastore, 1) := by decide +kernel
theorem dJ2_compress_5af95_41 : decode cJ2_compress_5af95 41 = .ok (.iinc 1 1, 3) := by decide +kernel
theorem dJ2_compress_5af95_44 : decode cJ2_compress_5af95 44 = .ok (.iinc 3 1, 3) := by decide +kernel
theorem dJ2_compress_5af95_47 : decode cJ2_compress_5af95 47 = .ok (.iinc 5 1, 3) := by decide +kernel
theorem dJ2_compress_5af95_50 : decode cJ2_compress_5af95 50 = .ok (.goto (-40), 3) := by decide +kernel
theorem dJ2_compress_5af95_53 : decode cJ2_compress_5af95 53 = .ok (.iload 4, 2) := by decide +kernel
theorem dJ2_compress_5af95_55 : decode cJ2_compress_5af95 55 = .ok (.ireturn, 1) := by decide +kernel
theorem dJ2_fillNull_b72d1_0 : decode cJ2_fillNull_b72d1 0 = .ok (.aload_n 0, 1) := by decide +kernel
theorem dJ2_fillNull_b72d1_1 : decode cJ2_fillNull_b72d1 1 = .ok (.iload_n 1, 1) := by decide +kernel
theorem dJ2_fillNull_b72d1_2 : decode cJ2_fillNull_b72d1 2 = .ok (.iconst 1, 1) := by decide +kernel
theorem dJ2_fillNull_b72d1_3 : decode cJ2_fillNull_b72d1 3 = .ok (.ishl, 1) := by decide +kernel
theorem dJ2_fillNull_b72d1_4 : decode cJ2_fillNull_b72d1 4 = .ok (.iload_n 2, 1) := by decide +kernel
theorem dJ2_fillNull_b72d1_5 : decode cJ2_fillNull_b72d1 5 = .ok (.iconst 1, 1) := by decide +kernel
theorem dJ2_fillNull_b72d1_6 : decode cJ2_fillNull_b72d1 6 = .ok (.ishl, 1) := by decide +kernel
theorem dJ2_fillNull_b72d1_7 : decode cJ2_fillNull_b72d1 7 = .ok (.iconst 0, 1) := by decide +kernel
theorem dJ2_fillNull_b72d1_8 : decode cJ2_fillNull_b72d1 8 = .ok (.invokestatic 380, 3) := by decide +kernel
theorem dJ2_fillNull_b72d1_11 : decode cJ2_fillNull_b72d1 11 = .ok (.return_, 1) := by decide +kernel
theorem dJ2_putCharSB_b72d1_0 : decode cJ2_putCharSB_b72d1 0 = .ok (.iload_n 1, 1) := by decide +kernel
theorem dJ2_putCharSB_b72d1_1 : decode cJ2_putCharSB_b72d1 1 = .ok (.aload_n 0, 1) := by decide +kernel
theorem dJ2_putCharSB_b72d1_2 : decode cJ2_putCharSB_b72d1 2 = .ok (.invokestatic 67, 3) := by decide +kernel
theorem dJ2_putCharSB_b72d1_5 : decode cJ2_putCharSB_b72d1 5 = .ok (.aload_n 0, 1) := by decide +kernel
theorem dJ2_putCharSB_b72d1_6 : decode cJ2_putCharSB_b72d1 6 = .ok (.iload_n 1, 1) := by decide +kernel
theorem dJ2_putCharSB_b72d1_7 : decode cJ2_putCharSB_b72d1 7 = .ok (.iload_n 2, 1) := by decide +kernel
theorem dJ2_putCharSB_b72d1_8 : decode cJ2_putCharSB_b72d1 8 = .ok (.invokestatic 111, 3) := by decide +kernel
theorem dJ2_putCharSB_b72d1_11 : decode cJ2_putCharSB_b72d1 11 = .ok (.return_, 1) := by decide +kernel
theorem dJ2_getChars_46870_0 : decode cJ2_getChars_46870 0 = .ok (.iload_n 1, 1) := by decide +kernel
theorem dJ2_getChars_46870_1 : decode cJ2_getChars_46870 1 = .ok (.iload_n 2, 1) := by decide +kernel
theorem dJ2_getChars_46870_2 : decode cJ2_getChars_46870 2 = .ok (.aload_n 3, 1) := by decide +kernel
theorem dJ2_getChars_46870_3 : decode cJ2_getChars_46870 3 = .ok (.invokestatic 96, 3) := by decide +kernel
theorem dJ2_getChars_46870_6 : decode cJ2_getChars_46870 6 = .ok (.iload_n 0, 1) := by decide +kernel
theorem dJ2_getChars_46870_7 : decode cJ2_getChars_46870 7 = .ok (.iload_n 2, 1) := by decide +kernel
theorem dJ2_getChars_46870_8 : decode cJ2_getChars_46870 8 = .ok (.aload_n 3, 1) := by decide +kernel
theorem dJ2_getChars_46870_9 : decode cJ2_getChars_46870 9 = .ok (.invokestatic 393, 3) := by decide +kernel
theorem dJ2_getChars_46870_12 : decode cJ2_getChars_46870 12 = .ok (.istore 4, 2) := by decide +kernel
theorem dJ2_getChars_46870_14 : decode cJ2_getChars_46870 14 = .ok (.getstatic 44, 3) := by decide +kernel
theorem dJ2_getChars_46870_17 : decode cJ2_getChars_46870 17 = .ok (.ifCond .ne 17, 3) := by decide +kernel
theorem dJ2_getChars_46870_20 : decode cJ2_getChars_46870 20 = .ok (.iload_n 1, 1) := by decide +kernel
theorem dJ2_getChars_46870_21 : decode cJ2_getChars_46870 21 = .ok (.iload 4, 2) := by decide +kernel
theorem dJ2_getChars_46870_23 : decode cJ2_getChars_46870 23 = .ok (.if_icmp .eq 11, 3) := by decide +kernel
theorem dJ2_getChars_46870_26 : decode cJ2_getChars_46870 26 = .ok (.new 52, 3) := by decide +kernel
theorem dJ2_getChars_46870_29 : decode cJ2_getChars_46870 29 = .ok (.dup, 1) := by decide +kernel
theorem dJ2_getChars_46870_30 : decode cJ2_getChars_46870 30 = .ok (.invokespecial 66, 3) := by decide +kernel
theorem dJ2_getChars_46870_33 : decode cJ2_getChars_46870 33 = .ok (.athrow, 1) := by decide +kernel
theorem dJ2_getChars_46870_34 : decode cJ2_getChars_46870 34 = .ok (.iload 4, 2) := by decide +kernel
theorem dJ2_getChars_46870_36 : decode cJ2_getChars_46870 36 = .ok (.ireturn, 1) := by decide +kernel
theorem dJ2_putCharsAt_cd4e5_0 : decode cJ2_putCharsAt_cd4e5 0 = .ok (.iload_n 1, 1) := by decide +kernel
theorem dJ2_putCharsAt_cd4e5_1 : decode cJ2_putCharsAt_cd4e5 1 = .ok (.iconst 4, 1) := by decide +kernel
theorem dJ2_putCharsAt_cd4e5_2 : decode cJ2_putCharsAt_cd4e5 2 = .ok (.iadd, 1) := by decide +kernel
theorem dJ2_putCharsAt_cd4e5_3 : decode cJ2_putCharsAt_cd4e5 3 = .ok (.istore 6, 2) := by decide +kernel
theorem dJ2_putCharsAt_cd4e5_5 : decode cJ2_putCharsAt_cd4e5 5 = .ok (.iload_n 1, 1) := by decide +kernel
theorem dJ2_putCharsAt_cd4e5_6 : decode cJ2_putCharsAt_cd4e5 6 = .ok (.iload 6, 2) := by decide +kernel
theorem dJ2_putCharsAt_cd4e5_8 : decode cJ2_putCharsAt_cd4e5 8 = .ok (.aload_n 0, 1) := by decide +kernel
theorem dJ2_putCharsAt_cd4e5_9 : decode cJ2_putCharsAt_cd4e5 9 = .ok (.invokestatic 96, 3) := by decide +kernel
theorem dJ2_putCharsAt_cd4e5_12 : decode cJ2_putCharsAt_cd4e5 12 = .ok (.aload_n 0, 1) := by decide +kernel
theorem dJ2_putCharsAt_cd4e5_13 : decode cJ2_putCharsAt_cd4e5 13 = .ok (.iload_n 1, 1) := by decide +kernel
theorem dJ2_putCharsAt_cd4e5_14 : decode cJ2_putCharsAt_cd4e5 14 = .ok (.iinc 1 1, 3) := by decide +kernel
theorem dJ2_putCharsAt_cd4e5_17 : decode cJ2_putCharsAt_cd4e5 17 = .ok (.iload_n 2, 1) := by decide +kernel
theorem dJ2_putCharsAt_cd4e5_18 : decode cJ2_putCharsAt_cd4e5 18 = .ok (.invokestatic 111, 3) := by decide +kernel
theorem dJ2_putCharsAt_cd4e5_21 : decode cJ2_putCharsAt_cd4e5 21 = .ok (.aload_n 0, 1) := by decide +kernel
theorem dJ2_putCharsAt_cd4e5_22 : decode cJ2_putCharsAt_cd4e5 22 = .ok (.iload_n 1, 1) := by decide +kernel
theorem dJ2_putCharsAt_cd4e5_23 : decode cJ2_putCharsAt_cd4e5 23 = .ok (.iinc 1 1, 3) := by decide +kernel
theorem dJ2_putCharsAt_cd4e5_26 : decode cJ2_putCharsAt_cd4e5 26 = .ok (.iload_n 3, 1) := by decide +kernel
theorem dJ2_putCharsAt_cd4e5_27 : decode cJ2_putCharsAt_cd4e5 27 = .ok (.invokestatic 111, 3) := by decide +kernel
theorem dJ2_putCharsAt_cd4e5_30 : decode cJ2_putCharsAt_cd4e5 30 = .ok (.aload_n 0, 1) := by decide +kernel
theorem dJ2_putCharsAt_cd4e5_31 : decode cJ2_putCharsAt_cd4e5 31 = .ok (.iload_n 1, 1) := by decide +kernel
theorem dJ2_putCharsAt_cd4e5_32 : decode cJ2_putCharsAt_cd4e5 32 = .ok (.iinc 1 1, 3) := by decide +kernel
theorem dJ2_putCharsAt_cd4e5_35 : decode cJ2_putCharsAt_cd4e5 35 = .ok (.iload 4, 2) := by decide +kernel
theorem dJ2_putCharsAt_cd4e5_37 : decode cJ2_putCharsAt_cd4e5 37 = .ok (.invokestatic 111, 3) := by decide +kernel
theorem dJ2_putCharsAt_cd4e5_40 : decode cJ2_putCharsAt_cd4e5 40 = .ok (.aload_n 0, 1) := by decide +kernel
theorem dJ2_putCharsAt_cd4e5_41 : decode cJ2_putCharsAt_cd4e5 41 = .ok (.iload_n 1, 1) := by decide +kernel
theorem dJ2_putCharsAt_cd4e5_42 : decode cJ2_putCharsAt_cd4e5 42 = .ok (.iinc 1 1, 3) := by decide +kernel
theorem dJ2_putCharsAt_cd4e5_45 : decode cJ2_putCharsAt_cd4e5 45 = .ok (.iload 5, 2) := by decide +kernel
theorem dJ2_putCharsAt_cd4e5_47 : decode cJ2_putCharsAt_cd4e5 47 = .ok (.invokestatic 111, 3) := by decide +kernel
theorem dJ2_putCharsAt_cd4e5_50 : decode cJ2_putCharsAt_cd4e5 50 = .ok (.getstatic 44, 3) := by decide +kernel
theorem dJ2_putCharsAt_cd4e5_53 : decode cJ2_putCharsAt_cd4e5 53 = .ok (.ifCond .ne 17, 3) := by decide +kernel
theorem dJ2_putCharsAt_cd4e5_56 : decode cJ2_putCharsAt_cd4e5 56 = .ok (.iload_n 1, 1) := by decide +kernel
theorem dJ2_putCharsAt_cd4e5_57 : decode cJ2_putCharsAt_cd4e5 57 = .ok (.iload 6, 2) := by decide +kernel
theorem dJ2_putCharsAt_cd4e5_59 : decode cJ2_putCharsAt_cd4e5 59 = .ok (.if_icmp .eq 11, 3) := by decide +kernel
theorem dJ2_putCharsAt_cd4e5_62 : decode cJ2_putCharsAt_cd4e5 62 = .ok (.new 52, 3) := by decide +kernel
theorem dJ2_putCharsAt_cd4e5_65 : decode cJ2_putCharsAt_cd4e5 65 = .ok (.dup, 1) := by decide +kernel
theorem dJ2_putCharsAt_cd4e5_66 : decode cJ2_putCharsAt_cd4e5 66 = .ok (.invokespecial 66, 3) := by decide +kernel
theorem dJ2_putCharsAt_cd4e5_69 : decode cJ2_putCharsAt_cd4e5 69 = .ok (.athrow, 1) := by decide +kernel
theorem dJ2_putCharsAt_cd4e5_70 : decode cJ2_putCharsAt_cd4e5 70 = .ok (.iload 6, 2) := by decide +kernel
theorem dJ2_putCharsAt_cd4e5_72 : decode cJ2_putCharsAt_cd4e5 72 = .ok (.ireturn, 1) := by decide +kernel
theorem dJ2_charAt_3b067_0 : decode cJ2_charAt_3b067 0 = .ok (.iload_n 1, 1) := by decide +kernel
theorem dJ2_charAt_3b067_1 : decode cJ2_charAt_3b067 1 = .ok (.aload_n 0, 1) := by decide +kernel
theorem dJ2_charAt_3b067_2 : decode cJ2_charAt_3b067 2 = .ok (.invokestatic 67, 3) := by decide +kernel
theorem dJ2_charAt_3b067_5 : decode cJ2_charAt_3b067 5 = .ok (.aload_n 0, 1) := by decide +kernel
theorem dJ2_charAt_3b067_6 : decode cJ2_charAt_3b067 6 = .ok (.iload_n 1, 1) := by decide +kernel
theorem dJ2_charAt_3b067_7 : decode cJ2_charAt_3b067 7 = .ok (.invokestatic 71, 3) := by decide +kernel
theorem dJ2_charAt_3b067_10 : decode cJ2_charAt_3b067 10 = .ok (.ireturn, 1) := by decide +kernel
theorem dJ2_inflate_0e8fd_0 : decode cJ2_inflate_0e8fd 0 = .ok (.iload_n 3, 1) := by decide +kernel
theorem dJ2_inflate_0e8fd_1 : decode cJ2_inflate_0e8fd 1 = .ok (.iload 4, 2) := by decide +kernel
theorem dJ2_inflate_0e8fd_3 : decode cJ2_inflate_0e8fd 3 = .ok (.aload_n 2, 1) := by decide +kernel
theorem dJ2_inflate_0e8fd_4 : decode cJ2_inflate_0e8fd 4 = .ok (.invokestatic 173, 3) := by decide +kernel
theorem dJ2_inflate_0e8fd_7 : decode cJ2_inflate_0e8fd 7 = .ok (.iconst 0, 1) := by decide +kernel
theorem dJ2_inflate_0e8fd_8 : decode cJ2_inflate_0e8fd 8 = .ok (.istore 5, 2) := by decide +kernel
theorem dJ2_inflate_0e8fd_10 : decode cJ2_inflate_0e8fd 10 = .ok (.iload 5, 2) := by decide +kernel
theorem dJ2_inflate_0e8fd_12 : decode cJ2_inflate_0e8fd 12 = .ok (.iload 4, 2) := by decide +kernel
theorem dJ2_inflate_0e8fd_14 : decode cJ2_inflate_0e8fd 14 = .ok (.if_icmp .ge 27, 3) := by decide +kernel
theorem dJ2_inflate_0e8fd_17 : decode cJ2_inflate_0e8fd 17 = .ok (.aload_n 2, 1) := by decide +kernel
theorem dJ2_inflate_0e8fd_18 : decode cJ2_inflate_0e8fd 18 = .ok (.iload_n 3, 1) := by decide +kernel
theorem dJ2_inflate_0e8fd_19 : decode cJ2_inflate_0e8fd 19 = .ok (.iinc 3 1, 3) := by decide +kernel
theorem dJ2_inflate_0e8fd_22 : decode cJ2_inflate_0e8fd 22 = .ok (.aload_n 0, 1) := by decide +kernel
theorem dJ2_inflate_0e8fd_23 : decode cJ2_inflate_0e8fd 23 = .ok (.iload_n 1, 1) := by decide +kernel
theorem dJ2_inflate_0e8fd_24 : decode cJ2_inflate_0e8fd 24 = .ok (.iinc 1 1, 3) := by decide +kernel
theorem dJ2_inflate_0e8fd_27 : decode cJ2_inflate_0e8fd 27 = .ok (.baload, 1) := by decide +kernel
theorem dJ2_inflate_0e8fd_28 : decode cJ2_inflate_0e8fd 28 = .ok (.sipush 255, 3) := by decide +kernel
theorem dJ2_inflate_0e8fd_31 : decode cJ2_inflate_0e8fd 31 = .ok (.iand, 1) := by decide +kernel
theorem dJ2_inflate_0e8fd_32 : decode cJ2_inflate_0e8fd 32 = .ok (.invokestatic 111, 3) := by decide +kernel
theorem dJ2_inflate_0e8fd_35 : decode cJ2_inflate_0e8fd 35 = .ok (.iinc 5 1, 3) := by decide +kernel
theorem dJ2_inflate_0e8fd_38 : decode cJ2_inflate_0e8fd 38 = .ok (.goto (-28), 3) := by decide +kernel
theorem dJ2_inflate_0e8fd_41 : decode cJ2_inflate_0e8fd 41 = .ok (.return_, 1) := by decide +kernel
theorem dJ2_getChars_ba4f3_0 : decode cJ2_getChars_ba4f3 0 = .ok (.iload_n 1, 1) := by decide +kernel
theorem dJ2_getChars_ba4f3_1 : decode cJ2_getChars_ba4f3 1 = .ok (.istore 5, 2) := by decide +kernel
theorem dJ2_getChars_ba4f3_3 : decode cJ2_getChars_ba4f3 3 = .ok (.iload_n 0, 1) := by decide +kernel
theorem dJ2_getChars_ba4f3_4 : decode cJ2_getChars_ba4f3 4 = .ok (.ifCond .ge 7, 3) := by decide +kernel
theorem dJ2_getChars_ba4f3_7 : decode cJ2_getChars_ba4f3 7 = .ok (.iconst 1, 1) := by decide +kernel
theorem dJ2_getChars_ba4f3_8 : decode cJ2_getChars_ba4f3 8 = .ok (.goto 4, 3) := by decide +kernel
theorem dJ2_getChars_ba4f3_11 : decode cJ2_getChars_ba4f3 11 = .ok (.iconst 0, 1) := by decide +kernel
theorem dJ2_getChars_ba4f3_12 : decode cJ2_getChars_ba4f3 12 = .ok (.istore 6, 2) := by decide +kernel
theorem dJ2_getChars_ba4f3_14 : decode cJ2_getChars_ba4f3 14 = .ok (.iload 6, 2) := by decide +kernel
theorem dJ2_getChars_ba4f3_16 : decode cJ2_getChars_ba4f3 16 = .ok (.ifCond .ne 6, 3) := by decide +kernel
theorem dJ2_getChars_ba4f3_19 : decode cJ2_getChars_ba4f3 19 = .ok (.iload_n 0, 1) := by decide +kernel
theorem dJ2_getChars_ba4f3_20 : decode cJ2_getChars_ba4f3 20 = .ok (.ineg, 1) := by decide +kernel
theorem dJ2_getChars_ba4f3_21 : decode cJ2_getChars_ba4f3 21 = .ok (.istore_n 0, 1) := by decide +kernel
theorem dJ2_getChars_ba4f3_22 : decode cJ2_getChars_ba4f3 22 = .ok (.iload_n 0, 1) := by decide +kernel
theorem dJ2_getChars_ba4f3_23 : decode cJ2_getChars_ba4f3 23 = .ok (.bipush (-100), 2) := by decide +kernel
theorem dJ2_getChars_ba4f3_25 : decode cJ2_getChars_ba4f3 25 = .ok (.if_icmp .gt 51, 3) := by decide +kernel
theorem dJ2_getChars_ba4f3_28 : decode cJ2_getChars_ba4f3 28 = .ok (.iload_n 0, 1) := by decide +kernel
theorem dJ2_getChars_ba4f3_29 : decode cJ2_getChars_ba4f3 29 = .ok (.bipush 100, 2) := by decide +kernel
theorem dJ2_getChars_ba4f3_31 : decode cJ2_getChars_ba4f3 31 = .ok (.idiv, 1) := by decide +kernel
theorem dJ2_getChars_ba4f3_32 : decode cJ2_getChars_ba4f3 32 = .ok (.istore_n 3, 1) := by decide +kernel
theorem dJ2_getChars_ba4f3_33 : decode cJ2_getChars_ba4f3 33 = .ok (.iload_n 3, 1) := by decide +kernel
theorem dJ2_getChars_ba4f3_34 : decode cJ2_getChars_ba4f3 34 = .ok (.bipush 100, 2) := by decide +kernel
theorem dJ2_getChars_ba4f3_36 : decode cJ2_getChars_ba4f3 36 = .ok (.imul, 1) := by decide +kernel
theorem dJ2_getChars_ba4f3_37 : decode cJ2_getChars_ba4f3 37 = .ok (.iload_n 0, 1) := by decide +kernel
theorem dJ2_getChars_ba4f3_38 : decode cJ2_getChars_ba4f3 38 = .ok (.isub, 1) := by decide +kernel
theorem dJ2_getChars_ba4f3_39 : decode cJ2_getChars_ba4f3 39 = .ok (.istore 4, 2) := by decide +kernel
theorem dJ2_getChars_ba4f3_41 : decode cJ2_getChars_ba4f3 41 = .ok (.iload_n 3, 1) := by decide +kernel
theorem dJ2_getChars_ba4f3_42 : decode cJ2_getChars_ba4f3 42 = .ok (.istore_n 0, 1) := by decide +kernel
theorem dJ2_getChars_ba4f3_43 : decode cJ2_getChars_ba4f3 43 = .ok (.aload_n 2, 1) := by decide +kernel
theorem dJ2_getChars_ba4f3_44 : decode cJ2_getChars_ba4f3 44 = .ok (.iinc 5 (-1), 3) := by decide +kernel
theorem dJ2_getChars_ba4f3_47 : decode cJ2_getChars_ba4f3 47 = .ok (.iload 5, 2) := by decide +kernel
theorem dJ2_getChars_ba4f3_49 : decode cJ2_getChars_ba4f3 49 = .ok (.getstatic 403, 3) := by decide +kernel
theorem dJ2_getChars_ba4f3_52 : decode cJ2_getChars_ba4f3 52 = .ok (.iload 4, 2) := by decide +kernel
theorem dJ2_getChars_ba4f3_54 : decode cJ2_getChars_ba4f3 54 = .ok (.baload, 1) := by decide +kernel
theorem dJ2_getChars_ba4f3_55 : decode cJ2_getChars_ba4f3 55 = .ok (.invokestatic 111, 3) := by decide +kernel
theorem dJ2_getChars_ba4f3_58 : decode cJ2_getChars_ba4f3 58 = .ok (.aload_n 2, 1) := by decide +kernel
theorem dJ2_getChars_ba4f3_59 : decode cJ2_getChars_ba4f3 59 = .ok (.iinc 5 (-1), 3) := by decide +kernel
theorem dJ2_getChars_ba4f3_62 : decode cJ2_getChars_ba4f3 62 = .ok (.iload 5, 2) := by decide +kernel
theorem dJ2_getChars_ba4f3_64 : decode cJ2_getChars_ba4f3 64 = .ok (.getstatic 407, 3) := by decide +kernel
theorem dJ2_getChars_ba4f3_67 : decode cJ2_getChars_ba4f3 67 = .ok (.iload 4, 2) := by decide +kernel
theorem dJ2_getChars_ba4f3_69 : decode cJ2_getChars_ba4f3 69 = .ok (.baload, 1) := by decide +kernel
theorem dJ2_getChars_ba4f3_70 : decode cJ2_getChars_ba4f3 70 = .ok (.invokestatic 111, 3) := by decide +kernel
theorem dJ2_getChars_ba4f3_73 : decode cJ2_getChars_ba4f3 73 = .ok (.goto (-51), 3) := by decide +kernel
theorem dJ2_getChars_ba4f3_76 : decode cJ2_getChars_ba4f3 76 = .ok (.aload_n 2, 1) := by decide +kernel
theorem dJ2_getChars_ba4f3_77 : decode cJ2_getChars_ba4f3 77 = .ok (.iinc 5 (-1), 3) := by decide +kernel
theorem dJ2_getChars_ba4f3_80 : decode cJ2_getChars_ba4f3 80 = .ok (.iload 5, 2) := by decide +kernel
theorem dJ2_getChars_ba4f3_82 : decode cJ2_getChars_ba4f3 82 = .ok (.getstatic 403, 3) := by decide +kernel
theorem dJ2_getChars_ba4f3_85 : decode cJ2_getChars_ba4f3 85 = .ok (.iload_n 0, 1) := by decide +kernel
theorem dJ2_getChars_ba4f3_86 : decode cJ2_getChars_ba4f3 86 = .ok (.ineg, 1) := by decide +kernel
theorem dJ2_getChars_ba4f3_87 : decode cJ2_getChars_ba4f3 87 = .ok (.baload, 1) := by decide +kernel
theorem dJ2_getChars_ba4f3_88 : decode cJ2_getChars_ba4f3 88 = .ok (.invokestatic 111, 3) := by decide +kernel
theorem dJ2_getChars_ba4f3_91 : decode cJ2_getChars_ba4f3 91 = .ok (.iload_n 0, 1) := by decide +kernel
theorem dJ2_getChars_ba4f3_92 : decode cJ2_getChars_ba4f3 92 = .ok (.bipush (-9), 2) := by decide +kernel
theorem dJ2_getChars_ba4f3_94 : decode cJ2_getChars_ba4f3 94 = .ok (.if_icmp .ge 18, 3) := by decide +kernel
theorem dJ2_getChars_ba4f3_97 : decode cJ2_getChars_ba4f3 97 = .ok (.aload_n 2, 1) := by decide +kernel
theorem dJ2_getChars_ba4f3_98 : decode cJ2_getChars_ba4f3 98 = .ok (.iinc 5 (-1), 3) := by decide +kernel
theorem dJ2_getChars_ba4f3_101 : decode cJ2_getChars_ba4f3 101 = .ok (.iload 5, 2) := by decide +kernel
theorem dJ2_getChars_ba4f3_103 : decode cJ2_getChars_ba4f3 103 = .ok (.getstatic 407, 3) := by decide +kernel
theorem dJ2_getChars_ba4f3_106 : decode cJ2_getChars_ba4f3 106 = .ok (.iload_n 0, 1) := by decide +kernel
theorem dJ2_getChars_ba4f3_107 : decode cJ2_getChars_ba4f3 107 = .ok (.ineg, 1) := by decide +kernel
theorem dJ2_getChars_ba4f3_108 : decode cJ2_getChars_ba4f3 108 = .ok (.baload, 1) := by decide +kernel
theorem dJ2_getChars_ba4f3_109 : decode cJ2_getChars_ba4f3 109 = .ok (.invokestatic 111, 3) := by decide +kernel
theorem dJ2_getChars_ba4f3_112 : decode cJ2_getChars_ba4f3 112 = .ok (.iload 6, 2) := by decide +kernel
theorem dJ2_getChars_ba4f3_114 : decode cJ2_getChars_ba4f3 114 = .ok (.ifCond .eq 14, 3) := by decide +kernel
theorem dJ2_getChars_ba4f3_117 : decode cJ2_getChars_ba4f3 117 = .ok (.aload_n 2, 1) := by decide +kernel
theorem dJ2_getChars_ba4f3_118 : decode cJ2_getChars_ba4f3 118 = .ok (.iinc 5 (-1), 3) := by decide +kernel
theorem dJ2_getChars_ba4f3_121 : decode cJ2_getChars_ba4f3 121 = .ok (.iload 5, 2) := by decide +kernel
theorem dJ2_getChars_ba4f3_123 : decode cJ2_getChars_ba4f3 123 = .ok (.bipush 45, 2) := by decide +kernel
theorem dJ2_getChars_ba4f3_125 : decode cJ2_getChars_ba4f3 125 = .ok (.invokestatic 111, 3) := by decide +kernel
theorem dJ2_getChars_ba4f3_128 : decode cJ2_getChars_ba4f3 128 = .ok (.iload 5, 2) := by decide +kernel
theorem dJ2_getChars_ba4f3_130 : decode cJ2_getChars_ba4f3 130 = .ok (.ireturn, 1) := by decide +kernel
theorem dJ2_checkIndex_2214a_0 : decode cJ2_checkIndex_2214a 0 = .ok (.iload_n 0, 1) := by decide +kernel
theorem dJ2_checkIndex_2214a_1 : decode cJ2_checkIndex_2214a 1 = .ok (.aload_n 1, 1) := by decide +kernel
theorem dJ2_checkIndex_2214a_2 : decode cJ2_checkIndex_2214a 2 = .ok (.invokestatic 48, 3) := by decide +kernel
theorem dJ2_checkIndex_2214a_5 : decode cJ2_checkIndex_2214a 5 = .ok (.invokestatic 414, 3) := by decide +kernel
theorem dJ2_checkIndex_2214a_8 : decode cJ2_checkIndex_2214a 8 = .ok (.return_, 1) := by decide +kernel
theorem dJ2_checkBoundsBeginEnd_d044e_0 : decode cJ2_checkBoundsBeginEnd_d044e 0 = .ok (.iload_n 0, 1) := by decide +kernel
theorem dJ2_checkBoundsBeginEnd_d044e_1 : decode cJ2_checkBoundsBeginEnd_d044e 1 = .ok (.iload_n 1, 1) := by decide +kernel
theorem dJ2_checkBoundsBeginEnd_d044e_2 : decode cJ2_checkBoundsBeginEnd_d044e 2 = .ok (.aload_n 2, 1) := by decide +kernel
theorem dJ2_checkBoundsBeginEnd_d044e_3 : decode cJ2_checkBoundsBeginEnd_d044e 3 = .ok (.invokestatic 48, 3) := by decide +kernel
theorem dJ2_checkBoundsBeginEnd_d044e_6 : decode cJ2_checkBoundsBeginEnd_d044e 6 = .ok (.invokestatic 241, 3) := by decide +kernel
theorem dJ2_checkBoundsBeginEnd_d044e_9 : decode cJ2_checkBoundsBeginEnd_d044e 9 = .ok (.return_, 1) := by decide +kernel
theorem dJ2_checkBoundsOffCount_d044e_0 : decode cJ2_checkBoundsOffCount_d044e 0 = .ok (.iload_n 0, 1) := by decide +kernel
theorem dJ2_checkBoundsOffCount_d044e_1 : decode cJ2_checkBoundsOffCount_d044e 1 = .ok (.iload_n 1, 1) := by decide +kernel
theorem dJ2_checkBoundsOffCount_d044e_2 : decode cJ2_checkBoundsOffCount_d044e 2 = .ok (.aload_n 2, 1) := by decide +kernel
theorem dJ2_checkBoundsOffCount_d044e_3 : decode cJ2_checkBoundsOffCount_d044e 3 = .ok (.invokestatic 48, 3) := by decide +kernel
theorem dJ2_checkBoundsOffCount_d044e_6 : decode cJ2_checkBoundsOffCount_d044e 6 = .ok (.invokestatic 419, 3) := by decide +kernel
theorem dJ2_checkBoundsOffCount_d044e_9 : decode cJ2_checkBoundsOffCount_d044e 9 = .ok (.pop, 1) := by decide +kernel
theorem dJ2_checkBoundsOffCount_d044e_10 : decode cJ2_checkBoundsOffCount_d044e 10 = .ok (.return_, 1) := by decide +kernel
theorem dJ7_rangeCheck_23922_0 : decode cJ7_rangeCheck_23922 0 = .ok (.iload_n 1, 1) := by decide +kernel
theorem dJ7_rangeCheck_23922_1 : decode cJ7_rangeCheck_23922 1 = .ok (.iload_n 2, 1) := by decide +kernel
theorem dJ7_rangeCheck_23922_2 : decode cJ7_rangeCheck_23922 2 = .ok (.if_icmp .le 44, 3) := by decide +kernel
theorem dJ7_rangeCheck_23922_5 : decode cJ7_rangeCheck_23922 5 = .ok (.new 43, 3) := by decide +kernel
theorem dJ7_rangeCheck_23922_8 : decode cJ7_rangeCheck_23922 8 = .ok (.dup, 1) := by decide +kernel
theorem dJ7_rangeCheck_23922_9 : decode cJ7_rangeCheck_23922 9 = .ok (.new 45, 3) := by decide +kernel
theorem dJ7_rangeCheck_23922_12 : decode cJ7_rangeCheck_23922 12 = .ok (.dup, 1) := by decide +kernel
theorem dJ7_rangeCheck_23922_13 : decode cJ7_rangeCheck_23922 13 = .ok (.invokespecial 47, 3) := by decide +kernel
theorem dJ7_rangeCheck_23922_16 : decode cJ7_rangeCheck_23922 16 = .ok (.ldc 48, 2) := by decide +kernel
theorem dJ7_rangeCheck_23922_18 : decode cJ7_rangeCheck_23922 18 = .ok (.invokevirtual 50, 3) := by decide +kernel
theorem dJ7_rangeCheck_23922_21 : decode cJ7_rangeCheck_23922 21 = .ok (.iload_n 1, 1) := by decide +kernel
theorem dJ7_rangeCheck_23922_22 : decode cJ7_rangeCheck_23922 22 = .ok (.invokevirtual 54, 3) := by decide +kernel
theorem dJ7_rangeCheck_23922_25 : decode cJ7_rangeCheck_23922 25 = .ok (.ldc 57, 2) := by decide +kernel
theorem dJ7_rangeCheck_23922_27 : decode cJ7_rangeCheck_23922 27 = .ok (.invokevirtual 50, 3) := by decide +kernel
theorem dJ7_rangeCheck_23922_30 : decode cJ7_rangeCheck_23922 30 = .ok (.iload_n 2, 1) := by decide +kernel
theorem dJ7_rangeCheck_23922_31 : decode cJ7_rangeCheck_23922 31 = .ok (.invokevirtual 54, 3) := by decide +kernel
theorem dJ7_rangeCheck_23922_34 : decode cJ7_rangeCheck_23922 34 = .ok (.ldc 59, 2) := by decide +kernel
theorem dJ7_rangeCheck_23922_36 : decode cJ7_rangeCheck_23922 36 = .ok (.invokevirtual 50, 3) := by decide +kernel
theorem dJ7_rangeCheck_23922_39 : decode cJ7_rangeCheck_23922 39 = .ok (.invokevirtual 61, 3) := by decide +kernel
theorem dJ7_rangeCheck_23922_42 : decode cJ7_rangeCheck_23922 42 = .ok (.invokespecial 65, 3) := by decide +kernel
theorem dJ7_rangeCheck_23922_45 : decode cJ7_rangeCheck_23922 45 = .ok (.athrow, 1) := by decide +kernel
theorem dJ7_rangeCheck_23922_46 : decode cJ7_rangeCheck_23922 46 = .ok (.iload_n 1, 1) := by decide +kernel
theorem dJ7_rangeCheck_23922_47 : decode cJ7_rangeCheck_23922 47 = .ok (.ifCond .ge 12, 3) := by decide +kernel
theorem dJ7_rangeCheck_23922_50 : decode cJ7_rangeCheck_23922 50 = .ok (.new 68, 3) := by decide +kernel
theorem dJ7_rangeCheck_23922_53 : decode cJ7_rangeCheck_23922 53 = .ok (.dup, 1) := by decide +kernel
theorem dJ7_rangeCheck_23922_54 : decode cJ7_rangeCheck_23922 54 = .ok (.iload_n 1, 1) := by decide +kernel
theorem dJ7_rangeCheck_23922_55 : decode cJ7_rangeCheck_23922 55 = .ok (.invokespecial 70, 3) := by decide +kernel
theorem dJ7_rangeCheck_23922_58 : decode cJ7_rangeCheck_23922 58 = .ok (.athrow, 1) := by decide +kernel
theorem dJ7_rangeCheck_23922_59 : decode cJ7_rangeCheck_23922 59 = .ok (.iload_n 2, 1) := by decide +kernel
theorem dJ7_rangeCheck_23922_60 : decode cJ7_rangeCheck_23922 60 = .ok (.iload_n 0, 1) := by decide +kernel
theorem dJ7_rangeCheck_23922_61 : decode cJ7_rangeCheck_23922 61 = .ok (.if_icmp .le 12, 3) := by decide +kernel
theorem dJ7_rangeCheck_23922_64 : decode cJ7_rangeCheck_23922 64 = .ok (.new 68, 3) := by decide +kernel
theorem dJ7_rangeCheck_23922_67 : decode cJ7_rangeCheck_23922 67 = .ok (.dup, 1) := by decide +kernel
theorem dJ7_rangeCheck_23922_68 : decode cJ7_rangeCheck_23922 68 = .ok (.iload_n 2, 1) := by decide +kernel
theorem dJ7_rangeCheck_23922_69 : decode cJ7_rangeCheck_23922 69 = .ok (.invokespecial 70, 3) := by decide +kernel
theorem dJ7_rangeCheck_23922_72 : decode cJ7_rangeCheck_23922 72 = .ok (.athrow, 1) := by decide +kernel
theorem dJ7_rangeCheck_23922_73 : decode cJ7_rangeCheck_23922 73 = .ok (.return_, 1) := by decide +kernel
theorem dJ7_fill_eb02e_0 : decode cJ7_fill_eb02e 0 = .ok (.aload_n 0, 1) := by decide +kernel
theorem dJ7_fill_eb02e_1 : decode cJ7_fill_eb02e 1 = .ok (.arraylength, 1) := by decide +kernel
theorem dJ7_fill_eb02e_2 : decode cJ7_fill_eb02e 2 = .ok (.iload_n 1, 1) := by decide +kernel
theorem dJ7_fill_eb02e_3 : decode cJ7_fill_eb02e 3 = .ok (.iload_n 2, 1) := by decide +kernel
theorem dJ7_fill_eb02e_4 : decode cJ7_fill_eb02e 4 = .ok (.invokestatic 13, 3) := by decide +kernel
theorem dJ7_fill_eb02e_7 : decode cJ7_fill_eb02e 7 = .ok (.iload_n 1, 1) := by decide +kernel
theorem dJ7_fill_eb02e_8 : decode cJ7_fill_eb02e 8 = .ok (.istore 4, 2) := by decide +kernel
theorem dJ7_fill_eb02e_10 : decode cJ7_fill_eb02e 10 = .ok (.iload 4, 2) := by decide +kernel
theorem dJ7_fill_eb02e_12 : decode cJ7_fill_eb02e 12 = .ok (.iload_n 2, 1) := by decide +kernel
theorem dJ7_fill_eb02e_13 : decode cJ7_fill_eb02e 13 = .ok (.if_icmp .ge 14, 3) := by decide +kernel
theorem dJ7_fill_eb02e_16 : decode cJ7_fill_eb02e 16 = .ok (.aload_n 0, 1) := by decide +kernel
theorem dJ7_fill_eb02e_17 : decode cJ7_fill_eb02e 17 = .ok (.iload 4, 2) := by decide +kernel
theorem dJ7_fill_eb02e_19 : decode cJ7_fill_eb02e 19 = .ok (.iload_n 3, 1) := by decide +kernel
theorem dJ7_fill_eb02e_20 : decode cJ7_fill_eb02e 20 = .ok (.bastore, 1) := by decide +kernel
theorem dJ7_fill_eb02e_21 : decode cJ7_fill_eb02e 21 = .ok (.iinc 4 1, 3) := by decide +kernel
theorem dJ7_fill_eb02e_24 : decode cJ7_fill_eb02e 24 = .ok (.goto (-14), 3) := by decide +kernel
theorem dJ7_fill_eb02e_27 : decode cJ7_fill_eb02e 27 = .ok (.return_, 1) := by decide +kernel
theorem dJ7_copyOf_9075b_0 : decode cJ7_copyOf_9075b 0 = .ok (.iload_n 1, 1) := by decide +kernel
theorem dJ7_copyOf_9075b_1 : decode cJ7_copyOf_9075b 1 = .ok (.aload_n 0, 1) := by decide +kernel
theorem dJ7_copyOf_9075b_2 : decode cJ7_copyOf_9075b 2 = .ok (.arraylength, 1) := by decide +kernel
theorem dJ7_copyOf_9075b_3 : decode cJ7_copyOf_9075b 3 = .ok (.if_icmp .ne 11, 3) := by decide +kernel
theorem dJ7_copyOf_9075b_6 : decode cJ7_copyOf_9075b 6 = .ok (.aload_n 0, 1) := by decide +kernel
theorem dJ7_copyOf_9075b_7 : decode cJ7_copyOf_9075b 7 = .ok (.invokevirtual 310, 3) := by decide +kernel
theorem dJ7_copyOf_9075b_10 : decode cJ7_copyOf_9075b 10 = .ok (.checkcast 311, 3) := by decide +kernel
theorem dJ7_copyOf_9075b_13 : decode cJ7_copyOf_9075b 13 = .ok (.areturn, 1) := by decide +kernel
theorem dJ7_copyOf_9075b_14 : decode cJ7_copyOf_9075b 14 = .ok (.iload_n 1, 1) := by decide +kernel
theorem dJ7_copyOf_9075b_15 : decode cJ7_copyOf_9075b 15 = .ok (.newarray .byte, 2) := by decide +kernel
theorem dJ7_copyOf_9075b_17 : decode cJ7_copyOf_9075b 17 = .ok (.astore_n 2, 1) := by decide +kernel
theorem dJ7_copyOf_9075b_18 : decode cJ7_copyOf_9075b 18 = .ok (.aload_n 0, 1) := by decide +kernel
theorem dJ7_copyOf_9075b_19 : decode cJ7_copyOf_9075b 19 = .ok (.iconst 0, 1) := by decide +kernel
theorem dJ7_copyOf_9075b_20 : decode cJ7_copyOf_9075b 20 = .ok (.aload_n 2, 1) := by decide +kernel
theorem dJ7_copyOf_9075b_21 : decode cJ7_copyOf_9075b 21 = .ok (.iconst 0, 1) := by decide +kernel
theorem dJ7_copyOf_9075b_22 : decode cJ7_copyOf_9075b 22 = .ok (.aload_n 0, 1) := by decide +kernel
theorem dJ7_copyOf_9075b_23 : decode cJ7_copyOf_9075b 23 = .ok (.arraylength, 1) := by decide +kernel
theorem dJ7_copyOf_9075b_24 : decode cJ7_copyOf_9075b 24 = .ok (.iload_n 1, 1) := by decide +kernel
theorem dJ7_copyOf_9075b_25 : decode cJ7_copyOf_9075b 25 = .ok (.invokestatic 304, 3) := by decide +kernel
theorem dJ7_copyOf_9075b_28 : decode cJ7_copyOf_9075b 28 = .ok (.invokestatic 150, 3) := by decide +kernel
theorem dJ7_copyOf_9075b_31 : decode cJ7_copyOf_9075b 31 = .ok (.aload_n 2, 1) := by decide +kernel
theorem dJ7_copyOf_9075b_32 : decode cJ7_copyOf_9075b 32 = .ok (.areturn, 1) := by decide +kernel
theorem dJ7_checkLength_df160_0 : decode cJ7_checkLength_df160 0 = .ok (.iload_n 1, 1) := by decide +kernel
theorem dJ7_checkLength_df160_1 : decode cJ7_checkLength_df160 1 = .ok (.iload_n 0, 1) := by decide +kernel
theorem dJ7_checkLength_df160_2 : decode cJ7_checkLength_df160 2 = .ok (.if_icmp .ge 35, 3) := by decide +kernel
theorem dJ7_checkLength_df160_5 : decode cJ7_checkLength_df160 5 = .ok (.new 43, 3) := by decide +kernel
theorem dJ7_checkLength_df160_8 : decode cJ7_checkLength_df160 8 = .ok (.dup, 1) := by decide +kernel
theorem dJ7_checkLength_df160_9 : decode cJ7_checkLength_df160 9 = .ok (.new 45, 3) := by decide +kernel
theorem dJ7_checkLength_df160_12 : decode cJ7_checkLength_df160 12 = .ok (.dup, 1) := by decide +kernel
theorem dJ7_checkLength_df160_13 : decode cJ7_checkLength_df160 13 = .ok (.invokespecial 47, 3) := by decide +kernel
theorem dJ7_checkLength_df160_16 : decode cJ7_checkLength_df160 16 = .ok (.iload_n 0, 1) := by decide +kernel
theorem dJ7_checkLength_df160_17 : decode cJ7_checkLength_df160 17 = .ok (.invokevirtual 54, 3) := by decide +kernel
theorem dJ7_checkLength_df160_20 : decode cJ7_checkLength_df160 20 = .ok (.ldc_w 337, 3) := by decide +kernel
theorem dJ7_checkLength_df160_23 : decode cJ7_checkLength_df160 23 = .ok (.invokevirtual 50, 3) := by decide +kernel
theorem dJ7_checkLength_df160_26 : decode cJ7_checkLength_df160 26 = .ok (.iload_n 1, 1) := by decide +kernel
theorem dJ7_checkLength_df160_27 : decode cJ7_checkLength_df160 27 = .ok (.invokevirtual 54, 3) := by decide +kernel
theorem dJ7_checkLength_df160_30 : decode cJ7_checkLength_df160 30 = .ok (.invokevirtual 61, 3) := by decide +kernel
theorem dJ7_checkLength_df160_33 : decode cJ7_checkLength_df160 33 = .ok (.invokespecial 65, 3) := by decide +kernel
theorem dJ7_checkLength_df160_36 : decode cJ7_checkLength_df160 36 = .ok (.athrow, 1) := by decide +kernel
theorem dJ7_checkLength_df160_37 : decode cJ7_checkLength_df160 37 = .ok (.return_, 1) := by decide +kernel
theorem dJ7_copyOfRange_39247_0 : decode cJ7_copyOfRange_39247 0 = .ok (.iload_n 1, 1) := by decide +kernel
theorem dJ7_copyOfRange_39247_1 : decode cJ7_copyOfRange_39247 1 = .ok (.ifCond .ne 9, 3) := by decide +kernel
theorem dJ7_copyOfRange_39247_4 : decode cJ7_copyOfRange_39247 4 = .ok (.iload_n 2, 1) := by decide +kernel
theorem dJ7_copyOfRange_39247_5 : decode cJ7_copyOfRange_39247 5 = .ok (.aload_n 0, 1) := by decide +kernel
theorem dJ7_copyOfRange_39247_6 : decode cJ7_copyOfRange_39247 6 = .ok (.arraylength, 1) := by decide +kernel
theorem dJ7_copyOfRange_39247_7 : decode cJ7_copyOfRange_39247 7 = .ok (.if_icmp .eq 10, 3) := by decide +kernel
theorem dJ7_copyOfRange_39247_10 : decode cJ7_copyOfRange_39247 10 = .ok (.aload_n 0, 1) := by decide +kernel
theorem dJ7_copyOfRange_39247_11 : decode cJ7_copyOfRange_39247 11 = .ok (.iload_n 1, 1) := by decide +kernel
theorem dJ7_copyOfRange_39247_12 : decode cJ7_copyOfRange_39247 12 = .ok (.iload_n 2, 1) := by decide +kernel
theorem dJ7_copyOfRange_39247_13 : decode cJ7_copyOfRange_39247 13 = .ok (.invokestatic 339, 3) := by decide +kernel
theorem dJ7_copyOfRange_39247_16 : decode cJ7_copyOfRange_39247 16 = .ok (.areturn, 1) := by decide +kernel
theorem dJ7_copyOfRange_39247_17 : decode cJ7_copyOfRange_39247 17 = .ok (.aload_n 0, 1) := by decide +kernel
theorem dJ7_copyOfRange_39247_18 : decode cJ7_copyOfRange_39247 18 = .ok (.invokevirtual 310, 3) := by decide +kernel
theorem dJ7_copyOfRange_39247_21 : decode cJ7_copyOfRange_39247 21 = .ok (.checkcast 311, 3) := by decide +kernel
theorem dJ7_copyOfRange_39247_24 : decode cJ7_copyOfRange_39247 24 = .ok (.areturn, 1) := by decide +kernel
theorem dJ7_copyOfRangeByte_39247_0 : decode cJ7_copyOfRangeByte_39247 0 = .ok (.iload_n 1, 1) := by decide +kernel
theorem dJ7_copyOfRangeByte_39247_1 : decode cJ7_copyOfRangeByte_39247 1 = .ok (.iload_n 2, 1) := by decide +kernel
theorem dJ7_copyOfRangeByte_39247_2 : decode cJ7_copyOfRangeByte_39247 2 = .ok (.invokestatic 343, 3) := by decide +kernel
theorem dJ7_copyOfRangeByte_39247_5 : decode cJ7_copyOfRangeByte_39247 5 = .ok (.iload_n 2, 1) := by decide +kernel
theorem dJ7_copyOfRangeByte_39247_6 : decode cJ7_copyOfRangeByte_39247 6 = .ok (.iload_n 1, 1) := by decide +kernel
theorem dJ7_copyOfRangeByte_39247_7 : decode cJ7_copyOfRangeByte_39247 7 = .ok (.isub, 1) := by decide +kernel
theorem dJ7_copyOfRangeByte_39247_8 : decode cJ7_copyOfRangeByte_39247 8 = .ok (.istore_n 3, 1) := by decide +kernel
theorem dJ7_copyOfRangeByte_39247_9 : decode cJ7_copyOfRangeByte_39247 9 = .ok (.iload_n 3, 1) := by decide +kernel
theorem dJ7_copyOfRangeByte_39247_10 : decode cJ7_copyOfRangeByte_39247 10 = .ok (.newarray .byte, 2) := by decide +kernel
theorem dJ7_copyOfRangeByte_39247_12 : decode cJ7_copyOfRangeByte_39247 12 = .ok (.astore 4, 2) := by decide +kernel
theorem dJ7_copyOfRangeByte_39247_14 : decode cJ7_copyOfRangeByte_39247 14 = .ok (.aload_n 0, 1) := by decide +kernel
theorem dJ7_copyOfRangeByte_39247_15 : decode cJ7_copyOfRangeByte_39247 15 = .ok (.iload_n 1, 1) := by decide +kernel
theorem dJ7_copyOfRangeByte_39247_16 : decode cJ7_copyOfRangeByte_39247 16 = .ok (.aload 4, 2) := by decide +kernel
theorem dJ7_copyOfRangeByte_39247_18 : decode cJ7_copyOfRangeByte_39247 18 = .ok (.iconst 0, 1) := by decide +kernel
theorem dJ7_copyOfRangeByte_39247_19 : decode cJ7_copyOfRangeByte_39247 19 = .ok (.aload_n 0, 1) := by decide +kernel
theorem dJ7_copyOfRangeByte_39247_20 : decode cJ7_copyOfRangeByte_39247 20 = .ok (.arraylength, 1) := by decide +kernel
theorem dJ7_copyOfRangeByte_39247_21 : decode cJ7_copyOfRangeByte_39247 21 = .ok (.iload_n 1, 1) := by decide +kernel
theorem dJ7_copyOfRangeByte_39247_22 : decode cJ7_copyOfRangeByte_39247 22 = .ok (.isub, 1) := by decide +kernel
theorem dJ7_copyOfRangeByte_39247_23 : decode cJ7_copyOfRangeByte_39247 23 = .ok (.iload_n 3, 1) := by decide +kernel
theorem dJ7_copyOfRangeByte_39247_24 : decode cJ7_copyOfRangeByte_39247 24 = .ok (.invokestatic 304, 3) := by decide +kernel
theorem dJ7_copyOfRangeByte_39247_27 : decode cJ7_copyOfRangeByte_39247 27 = .ok (.invokestatic 150, 3) := by decide +kernel
theorem dJ7_copyOfRangeByte_39247_30 : decode cJ7_copyOfRangeByte_39247 30 = .ok (.aload 4, 2) := by decide +kernel
theorem dJ7_copyOfRangeByte_39247_32 : decode cJ7_copyOfRangeByte_39247 32 = .ok (.areturn, 1) := by decide +kernel
theorem dJ8_newLength_cabcc_0 : decode cJ8_newLength_cabcc 0 = .ok (.iload_n 0, 1) := by decide +kernel
theorem dJ8_newLength_cabcc_1 : decode cJ8_newLength_cabcc 1 = .ok (.iload_n 1, 1) := by decide +kernel
theorem dJ8_newLength_cabcc_2 : decode cJ8_newLength_cabcc 2 = .ok (.iload_n 2, 1) := by decide +kernel
theorem dJ8_newLength_cabcc_3 : decode cJ8_newLength_cabcc 3 = .ok (.invokestatic 194, 3) := by decide +kernel
theorem dJ8_newLength_cabcc_6 : decode cJ8_newLength_cabcc 6 = .ok (.iadd, 1) := by decide +kernel
theorem dJ8_newLength_cabcc_7 : decode cJ8_newLength_cabcc 7 = .ok (.istore_n 3, 1) := by decide +kernel
theorem dJ8_newLength_cabcc_8 : decode cJ8_newLength_cabcc 8 = .ok (.iconst 0, 1) := by decide +kernel
theorem dJ8_newLength_cabcc_9 : decode cJ8_newLength_cabcc 9 = .ok (.iload_n 3, 1) := by decide +kernel
theorem dJ8_newLength_cabcc_10 : decode cJ8_newLength_cabcc 10 = .ok (.if_icmp .ge 11, 3) := by decide +kernel
theorem dJ8_newLength_cabcc_13 : decode cJ8_newLength_cabcc 13 = .ok (.iload_n 3, 1) := by decide +kernel
theorem dJ8_newLength_cabcc_14 : decode cJ8_newLength_cabcc 14 = .ok (.ldc 200, 2) := by decide +kernel
theorem dJ8_newLength_cabcc_16 : decode cJ8_newLength_cabcc 16 = .ok (.if_icmp .gt 5, 3) := by decide +kernel
theorem dJ8_newLength_cabcc_19 : decode cJ8_newLength_cabcc 19 = .ok (.iload_n 3, 1) := by decide +kernel
theorem dJ8_newLength_cabcc_20 : decode cJ8_newLength_cabcc 20 = .ok (.ireturn, 1) := by decide +kernel
theorem dJ8_newLength_cabcc_21 : decode cJ8_newLength_cabcc 21 = .ok (.iload_n 0, 1) := by decide +kernel
theorem dJ8_newLength_cabcc_22 : decode cJ8_newLength_cabcc 22 = .ok (.iload_n 1, 1) := by decide +kernel
theorem dJ8_newLength_cabcc_23 : decode cJ8_newLength_cabcc 23 = .ok (.invokestatic 201, 3) := by decide +kernel
theorem dJ8_newLength_cabcc_26 : decode cJ8_newLength_cabcc 26 = .ok (.ireturn, 1) := by decide +kernel
theorem dJ8_hugeLength_7cf53_0 : decode cJ8_hugeLength_7cf53 0 = .ok (.iload_n 0, 1) := by decide +kernel
theorem dJ8_hugeLength_7cf53_1 : decode cJ8_hugeLength_7cf53 1 = .ok (.iload_n 1, 1) := by decide +kernel
theorem dJ8_hugeLength_7cf53_2 : decode cJ8_hugeLength_7cf53 2 = .ok (.iadd, 1) := by decide +kernel
theorem dJ8_hugeLength_7cf53_3 : decode cJ8_hugeLength_7cf53 3 = .ok (.istore_n 2, 1) := by decide +kernel
theorem dJ8_hugeLength_7cf53_4 : decode cJ8_hugeLength_7cf53 4 = .ok (.iload_n 2, 1) := by decide +kernel
theorem dJ8_hugeLength_7cf53_5 : decode cJ8_hugeLength_7cf53 5 = .ok (.ifCond .ge 44, 3) := by decide +kernel
theorem dJ8_hugeLength_7cf53_8 : decode cJ8_hugeLength_7cf53 8 = .ok (.new 204, 3) := by decide +kernel
theorem dJ8_hugeLength_7cf53_11 : decode cJ8_hugeLength_7cf53 11 = .ok (.dup, 1) := by decide +kernel
theorem dJ8_hugeLength_7cf53_12 : decode cJ8_hugeLength_7cf53 12 = .ok (.new 89, 3) := by decide +kernel
theorem dJ8_hugeLength_7cf53_15 : decode cJ8_hugeLength_7cf53 15 = .ok (.dup, 1) := by decide +kernel
theorem dJ8_hugeLength_7cf53_16 : decode cJ8_hugeLength_7cf53 16 = .ok (.invokespecial 91, 3) := by decide +kernel
theorem dJ8_hugeLength_7cf53_19 : decode cJ8_hugeLength_7cf53 19 = .ok (.ldc 206, 2) := by decide +kernel
theorem dJ8_hugeLength_7cf53_21 : decode cJ8_hugeLength_7cf53 21 = .ok (.invokevirtual 94, 3) := by decide +kernel
theorem dJ8_hugeLength_7cf53_24 : decode cJ8_hugeLength_7cf53 24 = .ok (.iload_n 0, 1) := by decide +kernel
theorem dJ8_hugeLength_7cf53_25 : decode cJ8_hugeLength_7cf53 25 = .ok (.invokevirtual 98, 3) := by decide +kernel
theorem dJ8_hugeLength_7cf53_28 : decode cJ8_hugeLength_7cf53 28 = .ok (.ldc 208, 2) := by decide +kernel
theorem dJ8_hugeLength_7cf53_30 : decode cJ8_hugeLength_7cf53 30 = .ok (.invokevirtual 94, 3) := by decide +kernel
theorem dJ8_hugeLength_7cf53_33 : decode cJ8_hugeLength_7cf53 33 = .ok (.iload_n 1, 1) := by decide +kernel
theorem dJ8_hugeLength_7cf53_34 : decode cJ8_hugeLength_7cf53 34 = .ok (.invokevirtual 98, 3) := by decide +kernel
theorem dJ8_hugeLength_7cf53_37 : decode cJ8_hugeLength_7cf53 37 = .ok (.ldc 210, 2) := by decide +kernel
theorem dJ8_hugeLength_7cf53_39 : decode cJ8_hugeLength_7cf53 39 = .ok (.invokevirtual 94, 3) := by decide +kernel
theorem dJ8_hugeLength_7cf53_42 : decode cJ8_hugeLength_7cf53 42 = .ok (.invokevirtual 101, 3) := by decide +kernel
theorem dJ8_hugeLength_7cf53_45 : decode cJ8_hugeLength_7cf53 45 = .ok (.invokespecial 212, 3) := by decide +kernel
theorem dJ8_hugeLength_7cf53_48 : decode cJ8_hugeLength_7cf53 48 = .ok (.athrow, 1) := by decide +kernel
theorem dJ8_hugeLength_7cf53_49 : decode cJ8_hugeLength_7cf53 49 = .ok (.iload_n 2, 1) := by decide +kernel
theorem dJ8_hugeLength_7cf53_50 : decode cJ8_hugeLength_7cf53 50 = .ok (.ldc 200, 2) := by decide +kernel
theorem dJ8_hugeLength_7cf53_52 : decode cJ8_hugeLength_7cf53 52 = .ok (.if_icmp .gt 6, 3) := by decide +kernel
theorem dJ8_hugeLength_7cf53_55 : decode cJ8_hugeLength_7cf53 55 = .ok (.ldc 200, 2) := by decide +kernel
theorem dJ8_hugeLength_7cf53_57 : decode cJ8_hugeLength_7cf53 57 = .ok (.ireturn, 1) := by decide +kernel
theorem dJ8_hugeLength_7cf53_58 : decode cJ8_hugeLength_7cf53 58 = .ok (.iload_n 2, 1) := by decide +kernel
theorem dJ8_hugeLength_7cf53_59 : decode cJ8_hugeLength_7cf53 59 = .ok (.ireturn, 1) := by decide +kernel
theorem dJ3_checkIndex_8e157_0 : decode cJ3_checkIndex_8e157 0 = .ok (.iload_n 0, 1) := by decide +kernel
theorem dJ3_checkIndex_8e157_1 : decode cJ3_checkIndex_8e157 1 = .ok (.ifCond .lt 8, 3) := by decide +kernel
theorem dJ3_checkIndex_8e157_4 : decode cJ3_checkIndex_8e157 4 = .ok (.iload_n 0, 1) := by decide +kernel
theorem dJ3_checkIndex_8e157_5 : decode cJ3_checkIndex_8e157 5 = .ok (.iload_n 1, 1) := by decide +kernel
theorem dJ3_checkIndex_8e157_6 : decode cJ3_checkIndex_8e157 6 = .ok (.if_icmp .lt 10, 3) := by decide +kernel
theorem dJ3_checkIndex_8e157_9 : decode cJ3_checkIndex_8e157 9 = .ok (.aload_n 2, 1) := by decide +kernel
theorem dJ3_checkIndex_8e157_10 : decode cJ3_checkIndex_8e157 10 = .ok (.iload_n 0, 1) := by decide +kernel
theorem dJ3_checkIndex_8e157_11 : decode cJ3_checkIndex_8e157 11 = .ok (.iload_n 1, 1) := by decide +kernel
theorem dJ3_checkIndex_8e157_12 : decode cJ3_checkIndex_8e157 12 = .ok (.invokestatic 95, 3) := by decide +kernel
theorem dJ3_checkIndex_8e157_15 : decode cJ3_checkIndex_8e157 15 = .ok (.athrow, 1) := by decide +kernel
theorem dJ3_checkIndex_8e157_16 : decode cJ3_checkIndex_8e157 16 = .ok (.iload_n 0, 1) := by decide +kernel
theorem dJ3_checkIndex_8e157_17 : decode cJ3_checkIndex_8e157 17 = .ok (.ireturn, 1) := by decide +kernel
theorem dJ3_checkFromToIndex_8c36e_0 : decode cJ3_checkFromToIndex_8c36e 0 = .ok (.iload_n 0, 1) := by decide +kernel
theorem dJ3_checkFromToIndex_8c36e_1 : decode cJ3_checkFromToIndex_8c36e 1 = .ok (.ifCond .lt 13, 3) := by decide +kernel
theorem dJ3_checkFromToIndex_8c36e_4 : decode cJ3_checkFromToIndex_8c36e 4 = .ok (.iload_n 0, 1) := by decide +kernel
theorem dJ3_checkFromToIndex_8c36e_5 : decode cJ3_checkFromToIndex_8c36e 5 = .ok (.iload_n 1, 1) := by decide +kernel
theorem dJ3_checkFromToIndex_8c36e_6 : decode cJ3_checkFromToIndex_8c36e 6 = .ok (.if_icmp .gt 8, 3) := by decide +kernel
theorem dJ3_checkFromToIndex_8c36e_9 : decode cJ3_checkFromToIndex_8c36e 9 = .ok (.iload_n 1, 1) := by decide +kernel
theorem dJ3_checkFromToIndex_8c36e_10 : decode cJ3_checkFromToIndex_8c36e 10 = .ok (.iload_n 2, 1) := by decide +kernel
theorem dJ3_checkFromToIndex_8c36e_11 : decode cJ3_checkFromToIndex_8c36e 11 = .ok (.if_icmp .le 11, 3) := by decide +kernel
theorem dJ3_checkFromToIndex_8c36e_14 : decode cJ3_checkFromToIndex_8c36e 14 = .ok (.aload_n 3, 1) := by decide +kernel
theorem dJ3_checkFromToIndex_8c36e_15 : decode cJ3_checkFromToIndex_8c36e 15 = .ok (.iload_n 0, 1) := by decide +kernel
theorem dJ3_checkFromToIndex_8c36e_16 : decode cJ3_checkFromToIndex_8c36e 16 = .ok (.iload_n 1, 1) := by decide +kernel
theorem dJ3_checkFromToIndex_8c36e_17 : decode cJ3_checkFromToIndex_8c36e 17 = .ok (.iload_n 2, 1) := by decide +kernel
theorem dJ3_checkFromToIndex_8c36e_18 : decode cJ3_checkFromToIndex_8c36e 18 = .ok (.invokestatic 99, 3) := by decide +kernel
theorem dJ3_checkFromToIndex_8c36e_21 : decode cJ3_checkFromToIndex_8c36e 21 = .ok (.athrow, 1) := by decide +kernel
theorem dJ3_checkFromToIndex_8c36e_22 : decode cJ3_checkFromToIndex_8c36e 22 = .ok (.iload_n 0, 1) := by decide +kernel
theorem dJ3_checkFromToIndex_8c36e_23 : decode cJ3_checkFromToIndex_8c36e 23 = .ok (.ireturn, 1) := by decide +kernel
theorem dJ3_checkFromIndexSize_8c36e_0 : decode cJ3_checkFromIndexSize_8c36e 0 = .ok (.iload_n 2, 1) := by decide +kernel
theorem dJ3_checkFromIndexSize_8c36e_1 : decode cJ3_checkFromIndexSize_8c36e 1 = .ok (.iload_n 0, 1) := by decide +kernel
theorem dJ3_checkFromIndexSize_8c36e_2 : decode cJ3_checkFromIndexSize_8c36e 2 = .ok (.ior, 1) := by decide +kernel
theorem dJ3_checkFromIndexSize_8c36e_3 : decode cJ3_checkFromIndexSize_8c36e 3 = .ok (.iload_n 1, 1) := by decide +kernel
theorem dJ3_checkFromIndexSize_8c36e_4 : decode cJ3_checkFromIndexSize_8c36e 4 = .ok (.ior, 1) := by decide +kernel
theorem dJ3_checkFromIndexSize_8c36e_5 : decode cJ3_checkFromIndexSize_8c36e 5 = .ok (.ifCond .lt 10, 3) := by decide +kernel
theorem dJ3_checkFromIndexSize_8c36e_8 : decode cJ3_checkFromIndexSize_8c36e 8 = .ok (.iload_n 1, 1) := by decide +kernel
theorem dJ3_checkFromIndexSize_8c36e_9 : decode cJ3_checkFromIndexSize_8c36e 9 = .ok (.iload_n 2, 1) := by decide +kernel
theorem dJ3_checkFromIndexSize_8c36e_10 : decode cJ3_checkFromIndexSize_8c36e 10 = .ok (.iload_n 0, 1) := by decide +kernel
theorem dJ3_checkFromIndexSize_8c36e_11 : decode cJ3_checkFromIndexSize_8c36e 11 = .ok (.isub, 1) := by decide +kernel
theorem dJ3_checkFromIndexSize_8c36e_12 : decode cJ3_checkFromIndexSize_8c36e 12 = .ok (.if_icmp .le 11, 3) := by decide +kernel
theorem dJ3_checkFromIndexSize_8c36e_15 : decode cJ3_checkFromIndexSize_8c36e 15 = .ok (.aload_n 3, 1) := by decide +kernel
theorem dJ3_checkFromIndexSize_8c36e_16 : decode cJ3_checkFromIndexSize_8c36e 16 = .ok (.iload_n 0, 1) := by decide +kernel
theorem dJ3_checkFromIndexSize_8c36e_17 : decode cJ3_checkFromIndexSize_8c36e 17 = .ok (.iload_n 1, 1) := by decide +kernel
theorem dJ3_checkFromIndexSize_8c36e_18 : decode cJ3_checkFromIndexSize_8c36e 18 = .ok (.iload_n 2, 1) := by decide +kernel
theorem dJ3_checkFromIndexSize_8c36e_19 : decode cJ3_checkFromIndexSize_8c36e 19 = .ok (.invokestatic 103, 3) := by decide +kernel
theorem dJ3_checkFromIndexSize_8c36e_22 : decode cJ3_checkFromIndexSize_8c36e 22 = .ok (.athrow, 1) := by decide +kernel
theorem dJ3_checkFromIndexSize_8c36e_23 : decode cJ3_checkFromIndexSize_8c36e 23 = .ok (.iload_n 0, 1) := by decide +kernel
theorem dJ3_checkFromIndexSize_8c36e_24 : decode cJ3_checkFromIndexSize_8c36e 24 = .ok (.ireturn, 1) := by decide +kernel
theorem dL_at_0 : decode cL_at 0 = .ok (.iload_n 1, 1) := by decide +kernel
theorem dL_at_1 : decode cL_at 1 = .ok (.aload_n 0, 1) := by decide +kernel
theorem dL_at_2 : decode cL_at 2 = .ok (.arraylength, 1) := by decide +kernel
theorem dL_at_3 : decode cL_at 3 = .ok (.if_icmp .ge 9, 3) := by decide +kernel
theorem dL_at_6 : decode cL_at 6 = .ok (.aload_n 0, 1) := by decide +kernel
theorem dL_at_7 : decode cL_at 7 = .ok (.iload_n 1, 1) := by decide +kernel
theorem dL_at_8 : decode cL_at 8 = .ok (.iaload, 1) := by decide +kernel
theorem dL_at_9 : decode cL_at 9 = .ok (.goto 4, 3) := by decide +kernel
theorem dL_at_12 : decode cL_at 12 = .ok (.iconst 0, 1) := by decide +kernel
theorem dL_at_13 : decode cL_at 13 = .ok (.ireturn, 1) := by decide +kernel
theorem dL_some_0 : decode cL_some 0 = .ok (.iload_n 0, 1) := by decide +kernel
theorem dL_some_1 : decode cL_some 1 = .ok (.iload_n 1, 1) := by decide +kernel
theorem dL_some_2 : decode cL_some 2 = .ok (.irem, 1) := by decide +kernel
theorem dL_some_3 : decode cL_some 3 = .ok (.istore_n 2, 1) := by decide +kernel
theorem dL_some_4 : decode cL_some 4 = .ok (.iload_n 2, 1) := by decide +kernel
theorem dL_some_5 : decode cL_some 5 = .ok (.ifCond .ge 9, 3) := by decide +kernel
theorem dL_some_8 : decode cL_some 8 = .ok (.iload_n 2, 1) := by decide +kernel
theorem dL_some_9 : decode cL_some 9 = .ok (.iload_n 1, 1) := by decide +kernel
theorem dL_some_10 : decode cL_some 10 = .ok (.iadd, 1) := by decide +kernel
theorem dL_some_11 : decode cL_some 11 = .ok (.goto 4, 3) := by decide +kernel
theorem dL_some_14 : decode cL_some 14 = .ok (.iload_n 2, 1) := by decide +kernel
theorem dL_some_15 : decode cL_some 15 = .ok (.ireturn, 1) := by decide +kernel
theorem dL_addRack_0 : decode cL_addRack 0 = .ok (.aload_n 0, 1) := by decide +kernel
theorem dL_addRack_1 : decode cL_addRack 1 = .ok (.iload_n 1, 1) := by decide +kernel
theorem dL_addRack_2 : decode cL_addRack 2 = .ok (.iload_n 2, 1) := by decide +kernel
theorem dL_addRack_3 : decode cL_addRack 3 = .ok (.iload_n 3, 1) := by decide +kernel
theorem dL_addRack_4 : decode cL_addRack 4 = .ok (.invokevirtual 7, 3) := by decide +kernel
theorem dL_addRack_7 : decode cL_addRack 7 = .ok (.ireturn, 1) := by decide +kernel
theorem dL_addRack_8 : decode cL_addRack 8 = .ok (.astore 4, 2) := by decide +kernel
theorem dL_addRack_10 : decode cL_addRack 10 = .ok (.sipush (-1001), 3) := by decide +kernel
theorem dL_addRack_13 : decode cL_addRack 13 = .ok (.ireturn, 1) := by decide +kernel
theorem dL_addRack_14 : decode cL_addRack 14 = .ok (.astore 4, 2) := by decide +kernel
theorem dL_addRack_16 : decode cL_addRack 16 = .ok (.sipush (-1002), 3) := by decide +kernel
theorem dL_addRack_19 : decode cL_addRack 19 = .ok (.ireturn, 1) := by decide +kernel
theorem dL_addRack_20 : decode cL_addRack 20 = .ok (.astore 4, 2) := by decide +kernel
theorem dL_addRack_22 : decode cL_addRack 22 = .ok (.sipush (-1003), 3) := by decide +kernel
theorem dL_addRack_25 : decode cL_addRack 25 = .ok (.ireturn, 1) := by decide +kernel
theorem dL_addRack_26 : decode cL_addRack 26 = .ok (.astore 4, 2) := by decide +kernel
theorem dL_addRack_28 : decode cL_addRack 28 = .ok (.sipush (-1004), 3) := by decide +kernel
theorem dL_addRack_31 : decode cL_addRack 31 = .ok (.ireturn, 1) := by decide +kernel
theorem dL_removeRack_0 : decode cL_removeRack 0 = .ok (.aload_n 0, 1) := by decide +kernel
theorem dL_removeRack_1 : decode cL_removeRack 1 = .ok (.iload_n 1, 1) := by decide +kernel
theorem dL_removeRack_2 : decode cL_removeRack 2 = .ok (.invokevirtual 21, 3) := by decide +kernel
theorem dL_removeRack_5 : decode cL_removeRack 5 = .ok (.ireturn, 1) := by decide +kernel
theorem dL_removeRack_6 : decode cL_removeRack 6 = .ok (.astore_n 2, 1) := by decide +kernel
theorem dL_removeRack_7 : decode cL_removeRack 7 = .ok (.sipush (-1001), 3) := by decide +kernel
theorem dL_removeRack_10 : decode cL_removeRack 10 = .ok (.ireturn, 1) := by decide +kernel
theorem dL_moveRack_0 : decode cL_moveRack 0 = .ok (.aload_n 0, 1) := by decide +kernel
theorem dL_moveRack_1 : decode cL_moveRack 1 = .ok (.iload_n 1, 1) := by decide +kernel
theorem dL_moveRack_2 : decode cL_moveRack 2 = .ok (.iload_n 2, 1) := by decide +kernel
theorem dL_moveRack_3 : decode cL_moveRack 3 = .ok (.iload_n 3, 1) := by decide +kernel
theorem dL_moveRack_4 : decode cL_moveRack 4 = .ok (.invokevirtual 25, 3) := by decide +kernel
theorem dL_moveRack_7 : decode cL_moveRack 7 = .ok (.ireturn, 1) := by decide +kernel
theorem dL_moveRack_8 : decode cL_moveRack 8 = .ok (.astore 4, 2) := by decide +kernel
theorem dL_moveRack_10 : decode cL_moveRack 10 = .ok (.sipush (-1001), 3) := by decide +kernel
theorem dL_moveRack_13 : decode cL_moveRack 13 = .ok (.ireturn, 1) := by decide +kernel
theorem dL_moveRack_14 : decode cL_moveRack 14 = .ok (.astore 4, 2) := by decide +kernel
theorem dL_moveRack_16 : decode cL_moveRack 16 = .ok (.sipush (-1002), 3) := by decide +kernel
theorem dL_moveRack_19 : decode cL_moveRack 19 = .ok (.ireturn, 1) := by decide +kernel
theorem dL_moveRack_20 : decode cL_moveRack 20 = .ok (.astore 4, 2) := by decide +kernel
theorem dL_moveRack_22 : decode cL_moveRack 22 = .ok (.sipush (-1003), 3) := by decide +kernel
theorem dL_moveRack_25 : decode cL_moveRack 25 = .ok (.ireturn, 1) := by decide +kernel
theorem dL_setLoad_0 : decode cL_setLoad 0 = .ok (.aload_n 0, 1) := by decide +kernel
theorem dL_setLoad_1 : decode cL_setLoad 1 = .ok (.iload_n 1, 1) := by decide +kernel
theorem dL_setLoad_2 : decode cL_setLoad 2 = .ok (.iload_n 2, 1) := by decide +kernel
theorem dL_setLoad_3 : decode cL_setLoad 3 = .ok (.invokevirtual 28, 3) := by decide +kernel
theorem dL_setLoad_6 : decode cL_setLoad 6 = .ok (.ireturn, 1) := by decide +kernel
theorem dL_setLoad_7 : decode cL_setLoad 7 = .ok (.astore_n 3, 1) := by decide +kernel
theorem dL_setLoad_8 : decode cL_setLoad 8 = .ok (.sipush (-1001), 3) := by decide +kernel
theorem dL_setLoad_11 : decode cL_setLoad 11 = .ok (.ireturn, 1) := by decide +kernel
theorem dL_setLoad_12 : decode cL_setLoad 12 = .ok (.astore_n 3, 1) := by decide +kernel
theorem dL_setLoad_13 : decode cL_setLoad 13 = .ok (.sipush (-1002), 3) := by decide +kernel
theorem dL_setLoad_16 : decode cL_setLoad 16 = .ok (.ireturn, 1) := by decide +kernel
theorem dL_migrate_0 : decode cL_migrate 0 = .ok (.aload_n 0, 1) := by decide +kernel
theorem dL_migrate_1 : decode cL_migrate 1 = .ok (.iload_n 1, 1) := by decide +kernel
theorem dL_migrate_2 : decode cL_migrate 2 = .ok (.iload_n 2, 1) := by decide +kernel
theorem dL_migrate_3 : decode cL_migrate 3 = .ok (.iload_n 3, 1) := by decide +kernel
theorem dL_migrate_4 : decode cL_migrate 4 = .ok (.invokevirtual 32, 3) := by decide +kernel
theorem dL_migrate_7 : decode cL_migrate 7 = .ok (.ireturn, 1) := by decide +kernel
theorem dL_migrate_8 : decode cL_migrate 8 = .ok (.astore 4, 2) := by decide +kernel
theorem dL_migrate_10 : decode cL_migrate 10 = .ok (.sipush (-1001), 3) := by decide +kernel
theorem dL_migrate_13 : decode cL_migrate 13 = .ok (.ireturn, 1) := by decide +kernel
theorem dL_migrate_14 : decode cL_migrate 14 = .ok (.astore 4, 2) := by decide +kernel
theorem dL_migrate_16 : decode cL_migrate 16 = .ok (.sipush (-1002), 3) := by decide +kernel
theorem dL_migrate_19 : decode cL_migrate 19 = .ok (.ireturn, 1) := by decide +kernel
theorem dL_migrate_20 : decode cL_migrate 20 = .ok (.astore 4, 2) := by decide +kernel
theorem dL_migrate_22 : decode cL_migrate 22 = .ok (.sipush (-1003), 3) := by decide +kernel
theorem dL_migrate_25 : decode cL_migrate 25 = .ok (.ireturn, 1) := by decide +kernel
theorem dL_setFan_0 : decode cL_setFan 0 = .ok (.aload_n 0, 1) := by decide +kernel
theorem dL_setFan_1 : decode cL_setFan 1 = .ok (.iload_n 1, 1) := by decide +kernel
theorem dL_setFan_2 : decode cL_setFan 2 = .ok (.iload_n 2, 1) := by decide +kernel
theorem dL_setFan_3 : decode cL_setFan 3 = .ok (.invokevirtual 35, 3) := by decide +kernel
theorem dL_setFan_6 : decode cL_setFan 6 = .ok (.ireturn, 1) := by decide +kernel
theorem dL_setFan_7 : decode cL_setFan 7 = .ok (.astore_n 3, 1) := by decide +kernel
theorem dL_setFan_8 : decode cL_setFan 8 = .ok (.sipush (-1001), 3) := by decide +kernel
theorem dL_setFan_11 : decode cL_setFan 11 = .ok (.ireturn, 1) := by decide +kernel
theorem dL_setFan_12 : decode cL_setFan 12 = .ok (.astore_n 3, 1) := by decide +kernel
theorem dL_setFan_13 : decode cL_setFan 13 = .ok (.sipush (-1002), 3) := by decide +kernel
theorem dL_setFan_16 : decode cL_setFan 16 = .ok (.ireturn, 1) := by decide +kernel
theorem dL_setCurve_0 : decode cL_setCurve 0 = .ok (.aload_n 0, 1) := by decide +kernel
theorem dL_setCurve_1 : decode cL_setCurve 1 = .ok (.iload_n 1, 1) := by decide +kernel
theorem dL_setCurve_2 : decode cL_setCurve 2 = .ok (.iload_n 2, 1) := by decide +kernel
theorem dL_setCurve_3 : decode cL_setCurve 3 = .ok (.invokevirtual 38, 3) := by decide +kernel
theorem dL_setCurve_6 : decode cL_setCurve 6 = .ok (.ireturn, 1) := by decide +kernel
theorem dL_setCurve_7 : decode cL_setCurve 7 = .ok (.astore_n 3, 1) := by decide +kernel
theorem dL_setCurve_8 : decode cL_setCurve 8 = .ok (.sipush (-1001), 3) := by decide +kernel
theorem dL_setCurve_11 : decode cL_setCurve 11 = .ok (.ireturn, 1) := by decide +kernel
theorem dL_setCurve_12 : decode cL_setCurve 12 = .ok (.astore_n 3, 1) := by decide +kernel
theorem dL_setCurve_13 : decode cL_setCurve 13 = .ok (.sipush (-1002), 3) := by decide +kernel
theorem dL_setCurve_16 : decode cL_setCurve 16 = .ok (.ireturn, 1) := by decide +kernel
theorem dL_setCurve_17 : decode cL_setCurve 17 = .ok (.astore_n 3, 1) := by decide +kernel
theorem dL_setCurve_18 : decode cL_setCurve 18 = .ok (.sipush (-1003), 3) := by decide +kernel
theorem dL_setCurve_21 : decode cL_setCurve 21 = .ok (.ireturn, 1) := by decide +kernel
theorem dL_setLimit_0 : decode cL_setLimit 0 = .ok (.aload_n 0, 1) := by decide +kernel
theorem dL_setLimit_1 : decode cL_setLimit 1 = .ok (.iload_n 1, 1) := by decide +kernel
theorem dL_setLimit_2 : decode cL_setLimit 2 = .ok (.invokevirtual 41, 3) := by decide +kernel
theorem dL_setLimit_5 : decode cL_setLimit 5 = .ok (.ireturn, 1) := by decide +kernel
theorem dL_setLimit_6 : decode cL_setLimit 6 = .ok (.astore_n 2, 1) := by decide +kernel
theorem dL_setLimit_7 : decode cL_setLimit 7 = .ok (.sipush (-1001), 3) := by decide +kernel
theorem dL_setLimit_10 : decode cL_setLimit 10 = .ok (.ireturn, 1) := by decide +kernel
theorem dL_advance_0 : decode cL_advance 0 = .ok (.aload_n 0, 1) := by decide +kernel
theorem dL_advance_1 : decode cL_advance 1 = .ok (.iload_n 1, 1) := by decide +kernel
theorem dL_advance_2 : decode cL_advance 2 = .ok (.invokevirtual 44, 3) := by decide +kernel
theorem dL_advance_5 : decode cL_advance 5 = .ok (.ireturn, 1) := by decide +kernel
theorem dL_advance_6 : decode cL_advance 6 = .ok (.astore_n 2, 1) := by decide +kernel
theorem dL_advance_7 : decode cL_advance 7 = .ok (.sipush (-1001), 3) := by decide +kernel
theorem dL_advance_10 : decode cL_advance 10 = .ok (.ireturn, 1) := by decide +kernel
theorem dL_aisleOf_0 : decode cL_aisleOf 0 = .ok (.aload_n 0, 1) := by decide +kernel
theorem dL_aisleOf_1 : decode cL_aisleOf 1 = .ok (.iload_n 1, 1) := by decide +kernel
theorem dL_aisleOf_2 : decode cL_aisleOf 2 = .ok (.invokevirtual 47, 3) := by decide +kernel
theorem dL_aisleOf_5 : decode cL_aisleOf 5 = .ok (.ireturn, 1) := by decide +kernel
theorem dL_aisleOf_6 : decode cL_aisleOf 6 = .ok (.astore_n 2, 1) := by decide +kernel
theorem dL_aisleOf_7 : decode cL_aisleOf 7 = .ok (.sipush (-1001), 3) := by decide +kernel
theorem dL_aisleOf_10 : decode cL_aisleOf 10 = .ok (.ireturn, 1) := by decide +kernel
theorem dL_placeOf_0 : decode cL_placeOf 0 = .ok (.aload_n 0, 1) := by decide +kernel
theorem dL_placeOf_1 : decode cL_placeOf 1 = .ok (.iload_n 1, 1) := by decide +kernel
theorem dL_placeOf_2 : decode cL_placeOf 2 = .ok (.invokevirtual 50, 3) := by decide +kernel
theorem dL_placeOf_5 : decode cL_placeOf 5 = .ok (.ireturn, 1) := by decide +kernel
theorem dL_placeOf_6 : decode cL_placeOf 6 = .ok (.astore_n 2, 1) := by decide +kernel
theorem dL_placeOf_7 : decode cL_placeOf 7 = .ok (.sipush (-1001), 3) := by decide +kernel
theorem dL_placeOf_10 : decode cL_placeOf 10 = .ok (.ireturn, 1) := by decide +kernel
theorem dL_load_0 : decode cL_load 0 = .ok (.aload_n 0, 1) := by decide +kernel
theorem dL_load_1 : decode cL_load 1 = .ok (.iload_n 1, 1) := by decide +kernel
theorem dL_load_2 : decode cL_load 2 = .ok (.invokevirtual 53, 3) := by decide +kernel
theorem dL_load_5 : decode cL_load 5 = .ok (.ireturn, 1) := by decide +kernel
theorem dL_load_6 : decode cL_load 6 = .ok (.astore_n 2, 1) := by decide +kernel
theorem dL_load_7 : decode cL_load 7 = .ok (.sipush (-1001), 3) := by decide +kernel
theorem dL_load_10 : decode cL_load 10 = .ok (.ireturn, 1) := by decide +kernel
theorem dL_rackAt_0 : decode cL_rackAt 0 = .ok (.aload_n 0, 1) := by decide +kernel
theorem dL_rackAt_1 : decode cL_rackAt 1 = .ok (.iload_n 1, 1) := by decide +kernel
theorem dL_rackAt_2 : decode cL_rackAt 2 = .ok (.iload_n 2, 1) := by decide +kernel
theorem dL_rackAt_3 : decode cL_rackAt 3 = .ok (.invokevirtual 56, 3) := by decide +kernel
theorem dL_rackAt_6 : decode cL_rackAt 6 = .ok (.ireturn, 1) := by decide +kernel
theorem dL_rackAt_7 : decode cL_rackAt 7 = .ok (.astore_n 3, 1) := by decide +kernel
theorem dL_rackAt_8 : decode cL_rackAt 8 = .ok (.sipush (-1001), 3) := by decide +kernel
theorem dL_rackAt_11 : decode cL_rackAt 11 = .ok (.ireturn, 1) := by decide +kernel
theorem dL_rackAt_12 : decode cL_rackAt 12 = .ok (.astore_n 3, 1) := by decide +kernel
theorem dL_rackAt_13 : decode cL_rackAt 13 = .ok (.sipush (-1002), 3) := by decide +kernel
theorem dL_rackAt_16 : decode cL_rackAt 16 = .ok (.ireturn, 1) := by decide +kernel
theorem dL_rackAt_17 : decode cL_rackAt 17 = .ok (.astore_n 3, 1) := by decide +kernel
theorem dL_rackAt_18 : decode cL_rackAt 18 = .ok (.sipush (-1003), 3) := by decide +kernel
theorem dL_rackAt_21 : decode cL_rackAt 21 = .ok (.ireturn, 1) := by decide +kernel
theorem dL_heat_0 : decode cL_heat 0 = .ok (.aload_n 0, 1) := by decide +kernel
theorem dL_heat_1 : decode cL_heat 1 = .ok (.iload_n 1, 1) := by decide +kernel
theorem dL_heat_2 : decode cL_heat 2 = .ok (.invokevirtual 61, 3) := by decide +kernel
theorem dL_heat_5 : decode cL_heat 5 = .ok (.ireturn, 1) := by decide +kernel
theorem dL_heat_6 : decode cL_heat 6 = .ok (.astore_n 2, 1) := by decide +kernel
theorem dL_heat_7 : decode cL_heat 7 = .ok (.sipush (-1001), 3) := by decide +kernel
theorem dL_heat_10 : decode cL_heat 10 = .ok (.ireturn, 1) := by decide +kernel
theorem dL_fan_0 : decode cL_fan 0 = .ok (.aload_n 0, 1) := by decide +kernel
theorem dL_fan_1 : decode cL_fan 1 = .ok (.iload_n 1, 1) := by decide +kernel
theorem dL_fan_2 : decode cL_fan 2 = .ok (.invokevirtual 64, 3) := by decide +kernel
theorem dL_fan_5 : decode cL_fan 5 = .ok (.ireturn, 1) := by decide +kernel
theorem dL_fan_6 : decode cL_fan 6 = .ok (.astore_n 2, 1) := by decide +kernel
theorem dL_fan_7 : decode cL_fan 7 = .ok (.sipush (-1001), 3) := by decide +kernel
theorem dL_fan_10 : decode cL_fan 10 = .ok (.ireturn, 1) := by decide +kernel
theorem dL_curve_0 : decode cL_curve 0 = .ok (.aload_n 0, 1) := by decide +kernel
theorem dL_curve_1 : decode cL_curve 1 = .ok (.iload_n 1, 1) := by decide +kernel
theorem dL_curve_2 : decode cL_curve 2 = .ok (.invokevirtual 67, 3) := by decide +kernel
theorem dL_curve_5 : decode cL_curve 5 = .ok (.ireturn, 1) := by decide +kernel
theorem dL_curve_6 : decode cL_curve 6 = .ok (.astore_n 2, 1) := by decide +kernel
theorem dL_curve_7 : decode cL_curve 7 = .ok (.sipush (-1001), 3) := by decide +kernel
theorem dL_curve_10 : decode cL_curve 10 = .ok (.ireturn, 1) := by decide +kernel
theorem dL_airflow_0 : decode cL_airflow 0 = .ok (.aload_n 0, 1) := by decide +kernel
theorem dL_airflow_1 : decode cL_airflow 1 = .ok (.iload_n 1, 1) := by decide +kernel
theorem dL_airflow_2 : decode cL_airflow 2 = .ok (.invokevirtual 70, 3) := by decide +kernel
theorem dL_airflow_5 : decode cL_airflow 5 = .ok (.freturn, 1) := by decide +kernel
theorem dL_airflow_6 : decode cL_airflow 6 = .ok (.astore_n 2, 1) := by decide +kernel
theorem dL_airflow_7 : decode cL_airflow 7 = .ok (.ldc 74, 2) := by decide +kernel
theorem dL_airflow_9 : decode cL_airflow 9 = .ok (.freturn, 1) := by decide +kernel
theorem dL_inlet_0 : decode cL_inlet 0 = .ok (.aload_n 0, 1) := by decide +kernel
theorem dL_inlet_1 : decode cL_inlet 1 = .ok (.iload_n 1, 1) := by decide +kernel
theorem dL_inlet_2 : decode cL_inlet 2 = .ok (.invokevirtual 75, 3) := by decide +kernel
theorem dL_inlet_5 : decode cL_inlet 5 = .ok (.freturn, 1) := by decide +kernel
theorem dL_inlet_6 : decode cL_inlet 6 = .ok (.astore_n 2, 1) := by decide +kernel
theorem dL_inlet_7 : decode cL_inlet 7 = .ok (.ldc 74, 2) := by decide +kernel
theorem dL_inlet_9 : decode cL_inlet 9 = .ok (.freturn, 1) := by decide +kernel
theorem dL_rise_0 : decode cL_rise 0 = .ok (.aload_n 0, 1) := by decide +kernel
theorem dL_rise_1 : decode cL_rise 1 = .ok (.iload_n 1, 1) := by decide +kernel
theorem dL_rise_2 : decode cL_rise 2 = .ok (.invokevirtual 78, 3) := by decide +kernel
theorem dL_rise_5 : decode cL_rise 5 = .ok (.freturn, 1) := by decide +kernel
theorem dL_rise_6 : decode cL_rise 6 = .ok (.astore_n 2, 1) := by decide +kernel
theorem dL_rise_7 : decode cL_rise 7 = .ok (.ldc 74, 2) := by decide +kernel
theorem dL_rise_9 : decode cL_rise 9 = .ok (.freturn, 1) := by decide +kernel
theorem dL_temperature_0 : decode cL_temperature 0 = .ok (.aload_n 0, 1) := by decide +kernel
theorem dL_temperature_1 : decode cL_temperature 1 = .ok (.iload_n 1, 1) := by decide +kernel
theorem dL_temperature_2 : decode cL_temperature 2 = .ok (.invokevirtual 81, 3) := by decide +kernel
theorem dL_temperature_5 : decode cL_temperature 5 = .ok (.freturn, 1) := by decide +kernel
theorem dL_temperature_6 : decode cL_temperature 6 = .ok (.astore_n 2, 1) := by decide +kernel
theorem dL_temperature_7 : decode cL_temperature 7 = .ok (.ldc 74, 2) := by decide +kernel
theorem dL_temperature_9 : decode cL_temperature 9 = .ok (.freturn, 1) := by decide +kernel
theorem dL_isHot_0 : decode cL_isHot 0 = .ok (.aload_n 0, 1) := by decide +kernel
theorem dL_isHot_1 : decode cL_isHot 1 = .ok (.iload_n 1, 1) := by decide +kernel
theorem dL_isHot_2 : decode cL_isHot 2 = .ok (.invokevirtual 84, 3) := by decide +kernel
theorem dL_isHot_5 : decode cL_isHot 5 = .ok (.ifCond .eq 7, 3) := by decide +kernel
theorem dL_isHot_8 : decode cL_isHot 8 = .ok (.iconst 1, 1) := by decide +kernel
theorem dL_isHot_9 : decode cL_isHot 9 = .ok (.goto 4, 3) := by decide +kernel
theorem dL_isHot_12 : decode cL_isHot 12 = .ok (.iconst 0, 1) := by decide +kernel
theorem dL_isHot_13 : decode cL_isHot 13 = .ok (.ireturn, 1) := by decide +kernel
theorem dL_isHot_14 : decode cL_isHot 14 = .ok (.astore_n 2, 1) := by decide +kernel
theorem dL_isHot_15 : decode cL_isHot 15 = .ok (.sipush (-1001), 3) := by decide +kernel
theorem dL_isHot_18 : decode cL_isHot 18 = .ok (.ireturn, 1) := by decide +kernel
theorem dL_needed_0 : decode cL_needed 0 = .ok (.aload_n 0, 1) := by decide +kernel
theorem dL_needed_1 : decode cL_needed 1 = .ok (.iload_n 1, 1) := by decide +kernel
theorem dL_needed_2 : decode cL_needed 2 = .ok (.invokevirtual 88, 3) := by decide +kernel
theorem dL_needed_5 : decode cL_needed 5 = .ok (.ireturn, 1) := by decide +kernel
theorem dL_needed_6 : decode cL_needed 6 = .ok (.astore_n 2, 1) := by decide +kernel
theorem dL_needed_7 : decode cL_needed 7 = .ok (.sipush (-1001), 3) := by decide +kernel
theorem dL_needed_10 : decode cL_needed 10 = .ok (.ireturn, 1) := by decide +kernel
theorem dL_needed_11 : decode cL_needed 11 = .ok (.astore_n 2, 1) := by decide +kernel
theorem dL_needed_12 : decode cL_needed 12 = .ok (.sipush (-1002), 3) := by decide +kernel
theorem dL_needed_15 : decode cL_needed 15 = .ok (.ireturn, 1) := by decide +kernel
theorem dL_neededBySearch_0 : decode cL_neededBySearch 0 = .ok (.aload_n 0, 1) := by decide +kernel
theorem dL_neededBySearch_1 : decode cL_neededBySearch 1 = .ok (.iload_n 1, 1) := by decide +kernel
theorem dL_neededBySearch_2 : decode cL_neededBySearch 2 = .ok (.invokevirtual 91, 3) := by decide +kernel
theorem dL_neededBySearch_5 : decode cL_neededBySearch 5 = .ok (.ireturn, 1) := by decide +kernel
theorem dL_neededBySearch_6 : decode cL_neededBySearch 6 = .ok (.astore_n 2, 1) := by decide +kernel
theorem dL_neededBySearch_7 : decode cL_neededBySearch 7 = .ok (.sipush (-1001), 3) := by decide +kernel
theorem dL_neededBySearch_10 : decode cL_neededBySearch 10 = .ok (.ireturn, 1) := by decide +kernel
theorem dL_neededBySearch_11 : decode cL_neededBySearch 11 = .ok (.astore_n 2, 1) := by decide +kernel
theorem dL_neededBySearch_12 : decode cL_neededBySearch 12 = .ok (.sipush (-1002), 3) := by decide +kernel
theorem dL_neededBySearch_15 : decode cL_neededBySearch 15 = .ok (.ireturn, 1) := by decide +kernel
theorem dL_untilHot_0 : decode cL_untilHot 0 = .ok (.aload_n 0, 1) := by decide +kernel
theorem dL_untilHot_1 : decode cL_untilHot 1 = .ok (.iload_n 1, 1) := by decide +kernel
theorem dL_untilHot_2 : decode cL_untilHot 2 = .ok (.invokevirtual 94, 3) := by decide +kernel
theorem dL_untilHot_5 : decode cL_untilHot 5 = .ok (.ireturn, 1) := by decide +kernel
theorem dL_untilHot_6 : decode cL_untilHot 6 = .ok (.astore_n 2, 1) := by decide +kernel
theorem dL_untilHot_7 : decode cL_untilHot 7 = .ok (.sipush (-1001), 3) := by decide +kernel
theorem dL_untilHot_10 : decode cL_untilHot 10 = .ok (.ireturn, 1) := by decide +kernel
theorem dL_untilHot_11 : decode cL_untilHot 11 = .ok (.astore_n 2, 1) := by decide +kernel
theorem dL_untilHot_12 : decode cL_untilHot 12 = .ok (.sipush (-1002), 3) := by decide +kernel
theorem dL_untilHot_15 : decode cL_untilHot 15 = .ok (.ireturn, 1) := by decide +kernel
theorem dL_byTemperature_0 : decode cL_byTemperature 0 = .ok (.aload_n 0, 1) := by decide +kernel
theorem dL_byTemperature_1 : decode cL_byTemperature 1 = .ok (.iload_n 1, 1) := by decide +kernel
theorem dL_byTemperature_2 : decode cL_byTemperature 2 = .ok (.invokevirtual 97, 3) := by decide +kernel
theorem dL_byTemperature_5 : decode cL_byTemperature 5 = .ok (.ireturn, 1) := by decide +kernel
theorem dL_byTemperature_6 : decode cL_byTemperature 6 = .ok (.astore_n 2, 1) := by decide +kernel
theorem dL_byTemperature_7 : decode cL_byTemperature 7 = .ok (.sipush (-1001), 3) := by decide +kernel
theorem dL_byTemperature_10 : decode cL_byTemperature 10 = .ok (.ireturn, 1) := by decide +kernel
theorem dL_byHeat_0 : decode cL_byHeat 0 = .ok (.aload_n 0, 1) := by decide +kernel
theorem dL_byHeat_1 : decode cL_byHeat 1 = .ok (.iload_n 1, 1) := by decide +kernel
theorem dL_byHeat_2 : decode cL_byHeat 2 = .ok (.invokevirtual 100, 3) := by decide +kernel
theorem dL_byHeat_5 : decode cL_byHeat 5 = .ok (.ireturn, 1) := by decide +kernel
theorem dL_byHeat_6 : decode cL_byHeat 6 = .ok (.astore_n 2, 1) := by decide +kernel
theorem dL_byHeat_7 : decode cL_byHeat 7 = .ok (.sipush (-1001), 3) := by decide +kernel
theorem dL_byHeat_10 : decode cL_byHeat 10 = .ok (.ireturn, 1) := by decide +kernel
theorem dL_stored_0 : decode cL_stored 0 = .ok (.aload_n 0, 1) := by decide +kernel
theorem dL_stored_1 : decode cL_stored 1 = .ok (.iload_n 1, 1) := by decide +kernel
theorem dL_stored_2 : decode cL_stored 2 = .ok (.invokevirtual 103, 3) := by decide +kernel
theorem dL_stored_5 : decode cL_stored 5 = .ok (.ireturn, 1) := by decide +kernel
theorem dL_stored_6 : decode cL_stored 6 = .ok (.astore_n 2, 1) := by decide +kernel
theorem dL_stored_7 : decode cL_stored 7 = .ok (.sipush (-1001), 3) := by decide +kernel
theorem dL_stored_10 : decode cL_stored 10 = .ok (.ireturn, 1) := by decide +kernel
theorem dL_mean_0 : decode cL_mean 0 = .ok (.aload_n 0, 1) := by decide +kernel
theorem dL_mean_1 : decode cL_mean 1 = .ok (.invokevirtual 106, 3) := by decide +kernel
theorem dL_mean_4 : decode cL_mean 4 = .ok (.dreturn, 1) := by decide +kernel
theorem dL_mean_5 : decode cL_mean 5 = .ok (.astore_n 1, 1) := by decide +kernel
theorem dL_mean_6 : decode cL_mean 6 = .ok (.ldc2_w 112, 3) := by decide +kernel
theorem dL_mean_9 : decode cL_mean 9 = .ok (.dreturn, 1) := by decide +kernel
theorem dL_hotShare_0 : decode cL_hotShare 0 = .ok (.aload_n 0, 1) := by decide +kernel
theorem dL_hotShare_1 : decode cL_hotShare 1 = .ok (.invokevirtual 114, 3) := by decide +kernel
theorem dL_hotShare_4 : decode cL_hotShare 4 = .ok (.freturn, 1) := by decide +kernel
theorem dL_hotShare_5 : decode cL_hotShare 5 = .ok (.astore_n 1, 1) := by decide +kernel
theorem dL_hotShare_6 : decode cL_hotShare 6 = .ok (.ldc 74, 2) := by decide +kernel
theorem dL_hotShare_8 : decode cL_hotShare 8 = .ok (.freturn, 1) := by decide +kernel
theorem dL_renderRack_0 : decode cL_renderRack 0 = .ok (.aload_n 0, 1) := by decide +kernel
theorem dL_renderRack_1 : decode cL_renderRack 1 = .ok (.iload_n 1, 1) := by decide +kernel
theorem dL_renderRack_2 : decode cL_renderRack 2 = .ok (.invokevirtual 118, 3) := by decide +kernel
theorem dL_renderRack_5 : decode cL_renderRack 5 = .ok (.ireturn, 1) := by decide +kernel
theorem dL_renderRack_6 : decode cL_renderRack 6 = .ok (.astore_n 2, 1) := by decide +kernel
theorem dL_renderRack_7 : decode cL_renderRack 7 = .ok (.sipush (-1001), 3) := by decide +kernel
theorem dL_renderRack_10 : decode cL_renderRack 10 = .ok (.ireturn, 1) := by decide +kernel
theorem dL_renderAisle_0 : decode cL_renderAisle 0 = .ok (.aload_n 0, 1) := by decide +kernel
theorem dL_renderAisle_1 : decode cL_renderAisle 1 = .ok (.iload_n 1, 1) := by decide +kernel
theorem dL_renderAisle_2 : decode cL_renderAisle 2 = .ok (.invokevirtual 121, 3) := by decide +kernel
theorem dL_renderAisle_5 : decode cL_renderAisle 5 = .ok (.ireturn, 1) := by decide +kernel
theorem dL_renderAisle_6 : decode cL_renderAisle 6 = .ok (.astore_n 2, 1) := by decide +kernel
theorem dL_renderAisle_7 : decode cL_renderAisle 7 = .ok (.sipush (-1001), 3) := by decide +kernel
theorem dL_renderAisle_10 : decode cL_renderAisle 10 = .ok (.ireturn, 1) := by decide +kernel
theorem dL_outputAt_0 : decode cL_outputAt 0 = .ok (.aload_n 0, 1) := by decide +kernel
theorem dL_outputAt_1 : decode cL_outputAt 1 = .ok (.iload_n 1, 1) := by decide +kernel
theorem dL_outputAt_2 : decode cL_outputAt 2 = .ok (.invokevirtual 124, 3) := by decide +kernel
theorem dL_outputAt_5 : decode cL_outputAt 5 = .ok (.ireturn, 1) := by decide +kernel
theorem dL_outputAt_6 : decode cL_outputAt 6 = .ok (.astore_n 2, 1) := by decide +kernel
theorem dL_outputAt_7 : decode cL_outputAt 7 = .ok (.sipush (-1001), 3) := by decide +kernel
theorem dL_outputAt_10 : decode cL_outputAt 10 = .ok (.ireturn, 1) := by decide +kernel
theorem dL_type_0 : decode cL_type 0 = .ok (.aload_n 0, 1) := by decide +kernel
theorem dL_type_1 : decode cL_type 1 = .ok (.iload_n 1, 1) := by decide +kernel
theorem dL_type_2 : decode cL_type 2 = .ok (.invokevirtual 128, 3) := by decide +kernel
theorem dL_type_5 : decode cL_type 5 = .ok (.ireturn, 1) := by decide +kernel
theorem dL_type_6 : decode cL_type 6 = .ok (.astore_n 2, 1) := by decide +kernel
theorem dL_type_7 : decode cL_type 7 = .ok (.sipush (-1001), 3) := by decide +kernel
theorem dL_type_10 : decode cL_type 10 = .ok (.ireturn, 1) := by decide +kernel
theorem dL_type_11 : decode cL_type 11 = .ok (.astore_n 2, 1) := by decide +kernel
theorem dL_type_12 : decode cL_type 12 = .ok (.sipush (-1002), 3) := by decide +kernel
theorem dL_type_15 : decode cL_type 15 = .ok (.ireturn, 1) := by decide +kernel
theorem dL_run_0 : decode cL_run 0 = .ok (.aload_n 0, 1) := by decide +kernel
theorem dL_run_1 : decode cL_run 1 = .ok (.invokevirtual 132, 3) := by decide +kernel
theorem dL_run_4 : decode cL_run 4 = .ok (.ireturn, 1) := by decide +kernel
theorem dL_run_5 : decode cL_run 5 = .ok (.astore_n 1, 1) := by decide +kernel
theorem dL_run_6 : decode cL_run 6 = .ok (.sipush (-1001), 3) := by decide +kernel
theorem dL_run_9 : decode cL_run 9 = .ok (.ireturn, 1) := by decide +kernel
theorem dL_run_10 : decode cL_run 10 = .ok (.astore_n 1, 1) := by decide +kernel
theorem dL_run_11 : decode cL_run 11 = .ok (.sipush (-1002), 3) := by decide +kernel
theorem dL_run_14 : decode cL_run 14 = .ok (.ireturn, 1) := by decide +kernel
theorem dL_errorPosition_0 : decode cL_errorPosition 0 = .ok (.aload_n 0, 1) := by decide +kernel
theorem dL_errorPosition_1 : decode cL_errorPosition 1 = .ok (.invokevirtual 136, 3) := by decide +kernel
theorem dL_errorPosition_4 : decode cL_errorPosition 4 = .ok (.ireturn, 1) := by decide +kernel
theorem dL_errorPosition_5 : decode cL_errorPosition 5 = .ok (.astore_n 1, 1) := by decide +kernel
theorem dL_errorPosition_6 : decode cL_errorPosition 6 = .ok (.sipush (-1001), 3) := by decide +kernel
theorem dL_errorPosition_9 : decode cL_errorPosition 9 = .ok (.ireturn, 1) := by decide +kernel
theorem dL_failedCommand_0 : decode cL_failedCommand 0 = .ok (.aload_n 0, 1) := by decide +kernel
theorem dL_failedCommand_1 : decode cL_failedCommand 1 = .ok (.invokevirtual 139, 3) := by decide +kernel
theorem dL_failedCommand_4 : decode cL_failedCommand 4 = .ok (.ireturn, 1) := by decide +kernel
theorem dL_failedCommand_5 : decode cL_failedCommand 5 = .ok (.astore_n 1, 1) := by decide +kernel
theorem dL_failedCommand_6 : decode cL_failedCommand 6 = .ok (.sipush (-1001), 3) := by decide +kernel
theorem dL_failedCommand_9 : decode cL_failedCommand 9 = .ok (.ireturn, 1) := by decide +kernel
theorem dL_undo_0 : decode cL_undo 0 = .ok (.aload_n 0, 1) := by decide +kernel
theorem dL_undo_1 : decode cL_undo 1 = .ok (.invokevirtual 142, 3) := by decide +kernel
theorem dL_undo_4 : decode cL_undo 4 = .ok (.ireturn, 1) := by decide +kernel
theorem dL_undo_5 : decode cL_undo 5 = .ok (.astore_n 1, 1) := by decide +kernel
theorem dL_undo_6 : decode cL_undo 6 = .ok (.sipush (-1001), 3) := by decide +kernel
theorem dL_undo_9 : decode cL_undo 9 = .ok (.ireturn, 1) := by decide +kernel
theorem dL_restore_0 : decode cL_restore 0 = .ok (.aload_n 0, 1) := by decide +kernel
theorem dL_restore_1 : decode cL_restore 1 = .ok (.invokevirtual 145, 3) := by decide +kernel
theorem dL_restore_4 : decode cL_restore 4 = .ok (.ireturn, 1) := by decide +kernel
theorem dL_restore_5 : decode cL_restore 5 = .ok (.astore_n 1, 1) := by decide +kernel
theorem dL_restore_6 : decode cL_restore 6 = .ok (.sipush (-1001), 3) := by decide +kernel
theorem dL_restore_9 : decode cL_restore 9 = .ok (.ireturn, 1) := by decide +kernel
theorem dL_runs_0 : decode cL_runs 0 = .ok (.iconst 0, 1) := by decide +kernel
theorem dL_runs_1 : decode cL_runs 1 = .ok (.istore_n 2, 1) := by decide +kernel
theorem dL_runs_2 : decode cL_runs 2 = .ok (.iload_n 2, 1) := by decide +kernel
theorem dL_runs_3 : decode cL_runs 3 = .ok (.aload_n 1, 1) := by decide +kernel
theorem dL_runs_4 : decode cL_runs 4 = .ok (.invokevirtual 148, 3) := by decide +kernel
theorem dL_runs_7 : decode cL_runs 7 = .ok (.if_icmp .ge 28, 3) := by decide +kernel
theorem dL_runs_10 : decode cL_runs 10 = .ok (.aload_n 0, 1) := by decide +kernel
theorem dL_runs_11 : decode cL_runs 11 = .ok (.aload_n 1, 1) := by decide +kernel
theorem dL_runs_12 : decode cL_runs 12 = .ok (.iload_n 2, 1) := by decide +kernel
theorem dL_runs_13 : decode cL_runs 13 = .ok (.invokevirtual 153, 3) := by decide +kernel
theorem dL_runs_16 : decode cL_runs 16 = .ok (.invokestatic 156, 3) := by decide +kernel
theorem dL_runs_19 : decode cL_runs 19 = .ok (.iload_n 2, 1) := by decide +kernel
theorem dL_runs_20 : decode cL_runs 20 = .ok (.iconst 1, 1) := by decide +kernel
theorem dL_runs_21 : decode cL_runs 21 = .ok (.iadd, 1) := by decide +kernel
theorem dL_runs_22 : decode cL_runs 22 = .ok (.if_icmp .eq 7, 3) := by decide +kernel
theorem dL_runs_25 : decode cL_runs 25 = .ok (.sipush (-9999), 3) := by decide +kernel
theorem dL_runs_28 : decode cL_runs 28 = .ok (.ireturn, 1) := by decide +kernel
theorem dL_runs_29 : decode cL_runs 29 = .ok (.iinc 2 1, 3) := by decide +kernel
theorem dL_runs_32 : decode cL_runs 32 = .ok (.goto (-30), 3) := by decide +kernel
theorem dL_runs_35 : decode cL_runs 35 = .ok (.aload_n 0, 1) := by decide +kernel
theorem dL_runs_36 : decode cL_runs 36 = .ok (.invokestatic 161, 3) := by decide +kernel
theorem dL_runs_39 : decode cL_runs 39 = .ok (.ireturn, 1) := by decide +kernel
theorem dL_makes_0 : decode cL_makes 0 = .ok (.iconst 3, 1) := by decide +kernel
theorem dL_makes_1 : decode cL_makes 1 = .ok (.aload_n 1, 1) := by decide +kernel
theorem dL_makes_2 : decode cL_makes 2 = .ok (.iconst 0, 1) := by decide +kernel
theorem dL_makes_3 : decode cL_makes 3 = .ok (.invokestatic 168, 3) := by decide +kernel
theorem dL_makes_6 : decode cL_makes 6 = .ok (.bipush 9, 2) := by decide +kernel
theorem dL_makes_8 : decode cL_makes 8 = .ok (.invokestatic 172, 3) := by decide +kernel
theorem dL_makes_11 : decode cL_makes 11 = .ok (.iadd, 1) := by decide +kernel
theorem dL_makes_12 : decode cL_makes 12 = .ok (.istore_n 2, 1) := by decide +kernel
theorem dL_makes_13 : decode cL_makes 13 = .ok (.iconst 0, 1) := by decide +kernel
theorem dL_makes_14 : decode cL_makes 14 = .ok (.istore_n 3, 1) := by decide +kernel
theorem dL_makes_15 : decode cL_makes 15 = .ok (.iload_n 3, 1) := by decide +kernel
theorem dL_makes_16 : decode cL_makes 16 = .ok (.iload_n 2, 1) := by decide +kernel
theorem dL_makes_17 : decode cL_makes 17 = .ok (.if_icmp .ge 64, 3) := by decide +kernel
theorem dL_makes_20 : decode cL_makes 20 = .ok (.aload_n 1, 1) := by decide +kernel
theorem dL_makes_21 : decode cL_makes 21 = .ok (.iconst 1, 1) := by decide +kernel
theorem dL_makes_22 : decode cL_makes 22 = .ok (.iload_n 3, 1) := by decide +kernel
theorem dL_makes_23 : decode cL_makes 23 = .ok (.iadd, 1) := by decide +kernel
theorem dL_makes_24 : decode cL_makes 24 = .ok (.invokestatic 168, 3) := by decide +kernel
theorem dL_makes_27 : decode cL_makes 27 = .ok (.istore 4, 2) := by decide +kernel
theorem dL_makes_29 : decode cL_makes 29 = .ok (.aload_n 0, 1) := by decide +kernel
theorem dL_makes_30 : decode cL_makes 30 = .ok (.iload 4, 2) := by decide +kernel
theorem dL_makes_32 : decode cL_makes 32 = .ok (.iconst 4, 1) := by decide +kernel
theorem dL_makes_33 : decode cL_makes 33 = .ok (.invokestatic 172, 3) := by decide +kernel
theorem dL_makes_36 : decode cL_makes 36 = .ok (.iload 4, 2) := by decide +kernel
theorem dL_makes_38 : decode cL_makes 38 = .ok (.iconst 3, 1) := by decide +kernel
theorem dL_makes_39 : decode cL_makes 39 = .ok (.ishr, 1) := by decide +kernel
theorem dL_makes_40 : decode cL_makes 40 = .ok (.bipush 6, 2) := by decide +kernel
theorem dL_makes_42 : decode cL_makes 42 = .ok (.invokestatic 172, 3) := by decide +kernel
theorem dL_makes_45 : decode cL_makes 45 = .ok (.iload 4, 2) := by decide +kernel
theorem dL_makes_47 : decode cL_makes 47 = .ok (.bipush 7, 2) := by decide +kernel
theorem dL_makes_49 : decode cL_makes 49 = .ok (.ishr, 1) := by decide +kernel
theorem dL_makes_50 : decode cL_makes 50 = .ok (.bipush 21, 2) := by decide +kernel
theorem dL_makes_52 : decode cL_makes 52 = .ok (.invokestatic 172, 3) := by decide +kernel
theorem dL_makes_55 : decode cL_makes 55 = .ok (.invokestatic 175, 3) := by decide +kernel
theorem dL_makes_58 : decode cL_makes 58 = .ok (.istore 5, 2) := by decide +kernel
theorem dL_makes_60 : decode cL_makes 60 = .ok (.iload 5, 2) := by decide +kernel
theorem dL_makes_62 : decode cL_makes 62 = .ok (.ifCond .ge 13, 3) := by decide +kernel
theorem dL_makes_65 : decode cL_makes 65 = .ok (.iload 5, 2) := by decide +kernel
theorem dL_makes_67 : decode cL_makes 67 = .ok (.sipush (-1004), 3) := by decide +kernel
theorem dL_makes_70 : decode cL_makes 70 = .ok (.if_icmp .eq 5, 3) := by decide +kernel
theorem dL_makes_73 : decode cL_makes 73 = .ok (.iconst 0, 1) := by decide +kernel
theorem dL_makes_74 : decode cL_makes 74 = .ok (.ireturn, 1) := by decide +kernel
theorem dL_makes_75 : decode cL_makes 75 = .ok (.iinc 3 1, 3) := by decide +kernel
theorem dL_makes_78 : decode cL_makes 78 = .ok (.goto (-63), 3) := by decide +kernel
theorem dL_makes_81 : decode cL_makes 81 = .ok (.iconst 0, 1) := by decide +kernel
theorem dL_makes_82 : decode cL_makes 82 = .ok (.istore_n 3, 1) := by decide +kernel
theorem dL_makes_83 : decode cL_makes 83 = .ok (.iload_n 3, 1) := by decide +kernel
theorem dL_makes_84 : decode cL_makes 84 = .ok (.iconst 4, 1) := by decide +kernel
theorem dL_makes_85 : decode cL_makes 85 = .ok (.if_icmp .ge 33, 3) := by decide +kernel
theorem dL_makes_88 : decode cL_makes 88 = .ok (.aload_n 0, 1) := by decide +kernel
theorem dL_makes_89 : decode cL_makes 89 = .ok (.iload_n 3, 1) := by decide +kernel
theorem dL_makes_90 : decode cL_makes 90 = .ok (.aload_n 1, 1) := by decide +kernel
theorem dL_makes_91 : decode cL_makes 91 = .ok (.bipush 13, 2) := by decide +kernel
theorem dL_makes_93 : decode cL_makes 93 = .ok (.iload_n 3, 1) := by decide +kernel
theorem dL_makes_94 : decode cL_makes 94 = .ok (.iadd, 1) := by decide +kernel
theorem dL_makes_95 : decode cL_makes 95 = .ok (.invokestatic 168, 3) := by decide +kernel
theorem dL_makes_98 : decode cL_makes 98 = .ok (.bipush 11, 2) := by decide +kernel
theorem dL_makes_100 : decode cL_makes 100 = .ok (.invokestatic 172, 3) := by decide +kernel
theorem dL_makes_103 : decode cL_makes 103 = .ok (.invokestatic 178, 3) := by decide +kernel
theorem dL_makes_106 : decode cL_makes 106 = .ok (.iconst 5, 1) := by decide +kernel
theorem dL_makes_107 : decode cL_makes 107 = .ok (.if_icmp .eq 5, 3) := by decide +kernel
theorem dL_makes_110 : decode cL_makes 110 = .ok (.iconst 0, 1) := by decide +kernel
theorem dL_makes_111 : decode cL_makes 111 = .ok (.ireturn, 1) := by decide +kernel
theorem dL_makes_112 : decode cL_makes 112 = .ok (.iinc 3 1, 3) := by decide +kernel
theorem dL_makes_115 : decode cL_makes 115 = .ok (.goto (-32), 3) := by decide +kernel
theorem dL_makes_118 : decode cL_makes 118 = .ok (.aload_n 0, 1) := by decide +kernel
theorem dL_makes_119 : decode cL_makes 119 = .ok (.iconst 2, 1) := by decide +kernel
theorem dL_makes_120 : decode cL_makes 120 = .ok (.bipush 80, 2) := by decide +kernel
theorem dL_makes_122 : decode cL_makes 122 = .ok (.aload_n 1, 1) := by decide +kernel
theorem dL_makes_123 : decode cL_makes 123 = .ok (.bipush 17, 2) := by decide +kernel
theorem dL_makes_125 : decode cL_makes 125 = .ok (.invokestatic 168, 3) := by decide +kernel
theorem dL_makes_128 : decode cL_makes 128 = .ok (.bipush 121, 2) := by decide +kernel
theorem dL_makes_130 : decode cL_makes 130 = .ok (.invokestatic 172, 3) := by decide +kernel
theorem dL_makes_133 : decode cL_makes 133 = .ok (.iadd, 1) := by decide +kernel
theorem dL_makes_134 : decode cL_makes 134 = .ok (.invokestatic 181, 3) := by decide +kernel
theorem dL_makes_137 : decode cL_makes 137 = .ok (.bipush 80, 2) := by decide +kernel
theorem dL_makes_139 : decode cL_makes 139 = .ok (.if_icmp .ne 45, 3) := by decide +kernel
theorem dL_makes_142 : decode cL_makes 142 = .ok (.aload_n 0, 1) := by decide +kernel
theorem dL_makes_143 : decode cL_makes 143 = .ok (.iconst 0, 1) := by decide +kernel
theorem dL_makes_144 : decode cL_makes 144 = .ok (.aload_n 1, 1) := by decide +kernel
theorem dL_makes_145 : decode cL_makes 145 = .ok (.bipush 18, 2) := by decide +kernel
theorem dL_makes_147 : decode cL_makes 147 = .ok (.invokestatic 168, 3) := by decide +kernel
theorem dL_makes_150 : decode cL_makes 150 = .ok (.bipush 40, 2) := by decide +kernel
theorem dL_makes_152 : decode cL_makes 152 = .ok (.invokestatic 172, 3) := by decide +kernel
theorem dL_makes_155 : decode cL_makes 155 = .ok (.invokestatic 181, 3) := by decide +kernel
theorem dL_makes_158 : decode cL_makes 158 = .ok (.ifCond .ne 26, 3) := by decide +kernel
theorem dL_makes_161 : decode cL_makes 161 = .ok (.aload_n 0, 1) := by decide +kernel
theorem dL_makes_162 : decode cL_makes 162 = .ok (.bipush 20, 2) := by decide +kernel
theorem dL_makes_164 : decode cL_makes 164 = .ok (.aload_n 1, 1) := by decide +kernel
theorem dL_makes_165 : decode cL_makes 165 = .ok (.bipush 19, 2) := by decide +kernel
theorem dL_makes_167 : decode cL_makes 167 = .ok (.invokestatic 168, 3) := by decide +kernel
theorem dL_makes_170 : decode cL_makes 170 = .ok (.bipush 20, 2) := by decide +kernel
theorem dL_makes_172 : decode cL_makes 172 = .ok (.invokestatic 172, 3) := by decide +kernel
theorem dL_makes_175 : decode cL_makes 175 = .ok (.iadd, 1) := by decide +kernel
theorem dL_makes_176 : decode cL_makes 176 = .ok (.invokestatic 184, 3) := by decide +kernel
theorem dL_makes_179 : decode cL_makes 179 = .ok (.bipush 27, 2) := by decide +kernel
theorem dL_makes_181 : decode cL_makes 181 = .ok (.if_icmp .eq 5, 3) := by decide +kernel
theorem dL_makes_184 : decode cL_makes 184 = .ok (.iconst 0, 1) := by decide +kernel
theorem dL_makes_185 : decode cL_makes 185 = .ok (.ireturn, 1) := by decide +kernel
theorem dL_makes_186 : decode cL_makes 186 = .ok (.aload_n 1, 1) := by decide +kernel
theorem dL_makes_187 : decode cL_makes 187 = .ok (.bipush 20, 2) := by decide +kernel
theorem dL_makes_189 : decode cL_makes 189 = .ok (.invokestatic 168, 3) := by decide +kernel
theorem dL_makes_192 : decode cL_makes 192 = .ok (.iconst 1, 1) := by decide +kernel
theorem dL_makes_193 : decode cL_makes 193 = .ok (.iand, 1) := by decide +kernel
theorem dL_makes_194 : decode cL_makes 194 = .ok (.ifCond .eq 25, 3) := by decide +kernel
theorem dL_makes_197 : decode cL_makes 197 = .ok (.aload_n 0, 1) := by decide +kernel
theorem dL_makes_198 : decode cL_makes 198 = .ok (.iconst 1, 1) := by decide +kernel
theorem dL_makes_199 : decode cL_makes 199 = .ok (.aload_n 1, 1) := by decide +kernel
theorem dL_makes_200 : decode cL_makes 200 = .ok (.bipush 20, 2) := by decide +kernel
theorem dL_makes_202 : decode cL_makes 202 = .ok (.invokestatic 168, 3) := by decide +kernel
theorem dL_makes_205 : decode cL_makes 205 = .ok (.iconst 2, 1) := by decide +kernel
theorem dL_makes_206 : decode cL_makes 206 = .ok (.ishr, 1) := by decide +kernel
theorem dL_makes_207 : decode cL_makes 207 = .ok (.bipush 9, 2) := by decide +kernel
theorem dL_makes_209 : decode cL_makes 209 = .ok (.invokestatic 172, 3) := by decide +kernel
theorem dL_makes_212 : decode cL_makes 212 = .ok (.iadd, 1) := by decide +kernel
theorem dL_makes_213 : decode cL_makes 213 = .ok (.invokestatic 186, 3) := by decide +kernel
theorem dL_makes_216 : decode cL_makes 216 = .ok (.ifCond .lt 7, 3) := by decide +kernel
theorem dL_makes_219 : decode cL_makes 219 = .ok (.iconst 1, 1) := by decide +kernel
theorem dL_makes_220 : decode cL_makes 220 = .ok (.goto 4, 3) := by decide +kernel
theorem dL_makes_223 : decode cL_makes 223 = .ok (.iconst 0, 1) := by decide +kernel
theorem dL_makes_224 : decode cL_makes 224 = .ok (.ireturn, 1) := by decide +kernel
theorem dL_asks_0 : decode cL_asks 0 = .ok (.aload_n 0, 1) := by decide +kernel
theorem dL_asks_1 : decode cL_asks 1 = .ok (.invokevirtual 188, 3) := by decide +kernel
theorem dL_asks_4 : decode cL_asks 4 = .ok (.istore_n 1, 1) := by decide +kernel
theorem dL_asks_5 : decode cL_asks 5 = .ok (.ldc2_w 191, 3) := by decide +kernel
theorem dL_asks_8 : decode cL_asks 8 = .ok (.aload_n 0, 1) := by decide +kernel
theorem dL_asks_9 : decode cL_asks 9 = .ok (.invokestatic 193, 3) := by decide +kernel
theorem dL_asks_12 : decode cL_asks 12 = .ok (.invokestatic 197, 3) := by decide +kernel
theorem dL_asks_15 : decode cL_asks 15 = .ok (.lmul, 1) := by decide +kernel
theorem dL_asks_16 : decode cL_asks 16 = .ok (.aload_n 0, 1) := by decide +kernel
theorem dL_asks_17 : decode cL_asks 17 = .ok (.invokestatic 203, 3) := by decide +kernel
theorem dL_asks_20 : decode cL_asks 20 = .ok (.invokestatic 206, 3) := by decide +kernel
theorem dL_asks_23 : decode cL_asks 23 = .ok (.i2l, 1) := by decide +kernel
theorem dL_asks_24 : decode cL_asks 24 = .ok (.ladd, 1) := by decide +kernel
theorem dL_asks_25 : decode cL_asks 25 = .ok (.lstore_n 2, 1) := by decide +kernel
theorem dL_asks_26 : decode cL_asks 26 = .ok (.ldc2_w 191, 3) := by decide +kernel
theorem dL_asks_29 : decode cL_asks 29 = .ok (.ldc2_w 191, 3) := by decide +kernel
theorem dL_asks_32 : decode cL_asks 32 = .ok (.ldc2_w 191, 3) := by decide +kernel
theorem dL_asks_35 : decode cL_asks 35 = .ok (.ldc2_w 191, 3) := by decide +kernel
theorem dL_asks_38 : decode cL_asks 38 = .ok (.ldc2_w 191, 3) := by decide +kernel
theorem dL_asks_41 : decode cL_asks 41 = .ok (.lload_n 2, 1) := by decide +kernel
theorem dL_asks_42 : decode cL_asks 42 = .ok (.lmul, 1) := by decide +kernel
theorem dL_asks_43 : decode cL_asks 43 = .ok (.iload_n 1, 1) := by decide +kernel
theorem dL_asks_44 : decode cL_asks 44 = .ok (.i2l, 1) := by decide +kernel
theorem dL_asks_45 : decode cL_asks 45 = .ok (.ladd, 1) := by decide +kernel
theorem dL_asks_46 : decode cL_asks 46 = .ok (.lmul, 1) := by decide +kernel
theorem dL_asks_47 : decode cL_asks 47 = .ok (.aload_n 0, 1) := by decide +kernel
theorem dL_asks_48 : decode cL_asks 48 = .ok (.invokevirtual 212, 3) := by decide +kernel
theorem dL_asks_51 : decode cL_asks 51 = .ok (.i2l, 1) := by decide +kernel
theorem dL_asks_52 : decode cL_asks 52 = .ok (.ladd, 1) := by decide +kernel
theorem dL_asks_53 : decode cL_asks 53 = .ok (.lmul, 1) := by decide +kernel
theorem dL_asks_54 : decode cL_asks 54 = .ok (.aload_n 0, 1) := by decide +kernel
theorem dL_asks_55 : decode cL_asks 55 = .ok (.invokevirtual 215, 3) := by decide +kernel
theorem dL_asks_58 : decode cL_asks 58 = .ok (.i2l, 1) := by decide +kernel
theorem dL_asks_59 : decode cL_asks 59 = .ok (.ladd, 1) := by decide +kernel
theorem dL_asks_60 : decode cL_asks 60 = .ok (.lmul, 1) := by decide +kernel
theorem dL_asks_61 : decode cL_asks 61 = .ok (.aload_n 0, 1) := by decide +kernel
theorem dL_asks_62 : decode cL_asks 62 = .ok (.invokevirtual 218, 3) := by decide +kernel
theorem dL_asks_65 : decode cL_asks 65 = .ok (.i2l, 1) := by decide +kernel
theorem dL_asks_66 : decode cL_asks 66 = .ok (.ladd, 1) := by decide +kernel
theorem dL_asks_67 : decode cL_asks 67 = .ok (.lmul, 1) := by decide +kernel
theorem dL_asks_68 : decode cL_asks 68 = .ok (.aload_n 0, 1) := by decide +kernel
theorem dL_asks_69 : decode cL_asks 69 = .ok (.invokevirtual 221, 3) := by decide +kernel
theorem dL_asks_72 : decode cL_asks 72 = .ok (.i2l, 1) := by decide +kernel
theorem dL_asks_73 : decode cL_asks 73 = .ok (.ladd, 1) := by decide +kernel
theorem dL_asks_74 : decode cL_asks 74 = .ok (.lstore_n 2, 1) := by decide +kernel
theorem dL_asks_75 : decode cL_asks 75 = .ok (.ldc2_w 191, 3) := by decide +kernel
theorem dL_asks_78 : decode cL_asks 78 = .ok (.ldc2_w 191, 3) := by decide +kernel
theorem dL_asks_81 : decode cL_asks 81 = .ok (.lload_n 2, 1) := by decide +kernel
theorem dL_asks_82 : decode cL_asks 82 = .ok (.lmul, 1) := by decide +kernel
theorem dL_asks_83 : decode cL_asks 83 = .ok (.aload_n 0, 1) := by decide +kernel
theorem dL_asks_84 : decode cL_asks 84 = .ok (.invokevirtual 224, 3) := by decide +kernel
theorem dL_asks_87 : decode cL_asks 87 = .ok (.i2l, 1) := by decide +kernel
theorem dL_asks_88 : decode cL_asks 88 = .ok (.ladd, 1) := by decide +kernel
theorem dL_asks_89 : decode cL_asks 89 = .ok (.lmul, 1) := by decide +kernel
theorem dL_asks_90 : decode cL_asks 90 = .ok (.aload_n 0, 1) := by decide +kernel
theorem dL_asks_91 : decode cL_asks 91 = .ok (.invokevirtual 227, 3) := by decide +kernel
theorem dL_asks_94 : decode cL_asks 94 = .ok (.i2l, 1) := by decide +kernel
theorem dL_asks_95 : decode cL_asks 95 = .ok (.ladd, 1) := by decide +kernel
theorem dL_asks_96 : decode cL_asks 96 = .ok (.lstore_n 2, 1) := by decide +kernel
theorem dL_asks_97 : decode cL_asks 97 = .ok (.iconst 0, 1) := by decide +kernel
theorem dL_asks_98 : decode cL_asks 98 = .ok (.istore 4, 2) := by decide +kernel
theorem dL_asks_100 : decode cL_asks 100 = .ok (.iload 4, 2) := by decide +kernel
theorem dL_asks_102 : decode cL_asks 102 = .ok (.iconst 4, 1) := by decide +kernel
theorem dL_asks_103 : decode cL_asks 103 = .ok (.if_icmp .ge 117, 3) := by decide +kernel
theorem dL_asks_106 : decode cL_asks 106 = .ok (.ldc2_w 191, 3) := by decide +kernel
theorem dL_asks_109 : decode cL_asks 109 = .ok (.ldc2_w 191, 3) := by decide +kernel
theorem dL_asks_112 : decode cL_asks 112 = .ok (.ldc2_w 191, 3) := by decide +kernel
theorem dL_asks_115 : decode cL_asks 115 = .ok (.lload_n 2, 1) := by decide +kernel
theorem dL_asks_116 : decode cL_asks 116 = .ok (.lmul, 1) := by decide +kernel
theorem dL_asks_117 : decode cL_asks 117 = .ok (.aload_n 0, 1) := by decide +kernel
theorem dL_asks_118 : decode cL_asks 118 = .ok (.iload 4, 2) := by decide +kernel
theorem dL_asks_120 : decode cL_asks 120 = .ok (.invokestatic 230, 3) := by decide +kernel
theorem dL_asks_123 : decode cL_asks 123 = .ok (.i2l, 1) := by decide +kernel
theorem dL_asks_124 : decode cL_asks 124 = .ok (.ladd, 1) := by decide +kernel
theorem dL_asks_125 : decode cL_asks 125 = .ok (.lmul, 1) := by decide +kernel
theorem dL_asks_126 : decode cL_asks 126 = .ok (.aload_n 0, 1) := by decide +kernel
theorem dL_asks_127 : decode cL_asks 127 = .ok (.iload 4, 2) := by decide +kernel
theorem dL_asks_129 : decode cL_asks 129 = .ok (.invokestatic 233, 3) := by decide +kernel
theorem dL_asks_132 : decode cL_asks 132 = .ok (.i2l, 1) := by decide +kernel
theorem dL_asks_133 : decode cL_asks 133 = .ok (.ladd, 1) := by decide +kernel
theorem dL_asks_134 : decode cL_asks 134 = .ok (.lmul, 1) := by decide +kernel
theorem dL_asks_135 : decode cL_asks 135 = .ok (.aload_n 0, 1) := by decide +kernel
theorem dL_asks_136 : decode cL_asks 136 = .ok (.iload 4, 2) := by decide +kernel
theorem dL_asks_138 : decode cL_asks 138 = .ok (.invokestatic 236, 3) := by decide +kernel
theorem dL_asks_141 : decode cL_asks 141 = .ok (.i2l, 1) := by decide +kernel
theorem dL_asks_142 : decode cL_asks 142 = .ok (.ladd, 1) := by decide +kernel
theorem dL_asks_143 : decode cL_asks 143 = .ok (.lstore_n 2, 1) := by decide +kernel
theorem dL_asks_144 : decode cL_asks 144 = .ok (.ldc2_w 191, 3) := by decide +kernel
theorem dL_asks_147 : decode cL_asks 147 = .ok (.ldc2_w 191, 3) := by decide +kernel
theorem dL_asks_150 : decode cL_asks 150 = .ok (.lload_n 2, 1) := by decide +kernel
theorem dL_asks_151 : decode cL_asks 151 = .ok (.lmul, 1) := by decide +kernel
theorem dL_asks_152 : decode cL_asks 152 = .ok (.aload_n 0, 1) := by decide +kernel
theorem dL_asks_153 : decode cL_asks 153 = .ok (.iload 4, 2) := by decide +kernel
theorem dL_asks_155 : decode cL_asks 155 = .ok (.invokestatic 239, 3) := by decide +kernel
theorem dL_asks_158 : decode cL_asks 158 = .ok (.invokestatic 206, 3) := by decide +kernel
theorem dL_asks_161 : decode cL_asks 161 = .ok (.i2l, 1) := by decide +kernel
theorem dL_asks_162 : decode cL_asks 162 = .ok (.ladd, 1) := by decide +kernel
theorem dL_asks_163 : decode cL_asks 163 = .ok (.lmul, 1) := by decide +kernel
theorem dL_asks_164 : decode cL_asks 164 = .ok (.aload_n 0, 1) := by decide +kernel
theorem dL_asks_165 : decode cL_asks 165 = .ok (.iload 4, 2) := by decide +kernel
theorem dL_asks_167 : decode cL_asks 167 = .ok (.invokestatic 243, 3) := by decide +kernel
theorem dL_asks_170 : decode cL_asks 170 = .ok (.invokestatic 206, 3) := by decide +kernel
theorem dL_asks_173 : decode cL_asks 173 = .ok (.i2l, 1) := by decide +kernel
theorem dL_asks_174 : decode cL_asks 174 = .ok (.ladd, 1) := by decide +kernel
theorem dL_asks_175 : decode cL_asks 175 = .ok (.lstore_n 2, 1) := by decide +kernel
theorem dL_asks_176 : decode cL_asks 176 = .ok (.aload_n 0, 1) := by decide +kernel
theorem dL_asks_177 : decode cL_asks 177 = .ok (.iload 4, 2) := by decide +kernel
theorem dL_asks_179 : decode cL_asks 179 = .ok (.invokestatic 245, 3) := by decide +kernel
theorem dL_asks_182 : decode cL_asks 182 = .ok (.istore 5, 2) := by decide +kernel
theorem dL_asks_184 : decode cL_asks 184 = .ok (.iconst 0, 1) := by decide +kernel
theorem dL_asks_185 : decode cL_asks 185 = .ok (.istore 6, 2) := by decide +kernel
theorem dL_asks_187 : decode cL_asks 187 = .ok (.iload 6, 2) := by decide +kernel
theorem dL_asks_189 : decode cL_asks 189 = .ok (.iload 5, 2) := by decide +kernel
theorem dL_asks_191 : decode cL_asks 191 = .ok (.if_icmp .ge 23, 3) := by decide +kernel
theorem dL_asks_194 : decode cL_asks 194 = .ok (.ldc2_w 191, 3) := by decide +kernel
theorem dL_asks_197 : decode cL_asks 197 = .ok (.lload_n 2, 1) := by decide +kernel
theorem dL_asks_198 : decode cL_asks 198 = .ok (.lmul, 1) := by decide +kernel
theorem dL_asks_199 : decode cL_asks 199 = .ok (.aload_n 0, 1) := by decide +kernel
theorem dL_asks_200 : decode cL_asks 200 = .ok (.iload 6, 2) := by decide +kernel
theorem dL_asks_202 : decode cL_asks 202 = .ok (.invokestatic 165, 3) := by decide +kernel
theorem dL_asks_205 : decode cL_asks 205 = .ok (.i2l, 1) := by decide +kernel
theorem dL_asks_206 : decode cL_asks 206 = .ok (.ladd, 1) := by decide +kernel
theorem dL_asks_207 : decode cL_asks 207 = .ok (.lstore_n 2, 1) := by decide +kernel
theorem dL_asks_208 : decode cL_asks 208 = .ok (.iinc 6 1, 3) := by decide +kernel
theorem dL_asks_211 : decode cL_asks 211 = .ok (.goto (-24), 3) := by decide +kernel
theorem dL_asks_214 : decode cL_asks 214 = .ok (.iinc 4 1, 3) := by decide +kernel
theorem dL_asks_217 : decode cL_asks 217 = .ok (.goto (-117), 3) := by decide +kernel
theorem dL_asks_220 : decode cL_asks 220 = .ok (.iconst 0, 1) := by decide +kernel
theorem dL_asks_221 : decode cL_asks 221 = .ok (.istore 4, 2) := by decide +kernel
theorem dL_asks_223 : decode cL_asks 223 = .ok (.iload 4, 2) := by decide +kernel
theorem dL_asks_225 : decode cL_asks 225 = .ok (.bipush 11, 2) := by decide +kernel
theorem dL_asks_227 : decode cL_asks 227 = .ok (.if_icmp .ge 26, 3) := by decide +kernel
theorem dL_asks_230 : decode cL_asks 230 = .ok (.ldc2_w 191, 3) := by decide +kernel
theorem dL_asks_233 : decode cL_asks 233 = .ok (.lload_n 2, 1) := by decide +kernel
theorem dL_asks_234 : decode cL_asks 234 = .ok (.lmul, 1) := by decide +kernel
theorem dL_asks_235 : decode cL_asks 235 = .ok (.aload_n 0, 1) := by decide +kernel
theorem dL_asks_236 : decode cL_asks 236 = .ok (.iload 4, 2) := by decide +kernel
theorem dL_asks_238 : decode cL_asks 238 = .ok (.invokestatic 247, 3) := by decide +kernel
theorem dL_asks_241 : decode cL_asks 241 = .ok (.invokestatic 206, 3) := by decide +kernel
theorem dL_asks_244 : decode cL_asks 244 = .ok (.i2l, 1) := by decide +kernel
theorem dL_asks_245 : decode cL_asks 245 = .ok (.ladd, 1) := by decide +kernel
theorem dL_asks_246 : decode cL_asks 246 = .ok (.lstore_n 2, 1) := by decide +kernel
theorem dL_asks_247 : decode cL_asks 247 = .ok (.iinc 4 1, 3) := by decide +kernel
theorem dL_asks_250 : decode cL_asks 250 = .ok (.goto (-27), 3) := by decide +kernel
theorem dL_asks_253 : decode cL_asks 253 = .ok (.iconst 0, 1) := by decide +kernel
theorem dL_asks_254 : decode cL_asks 254 = .ok (.istore 4, 2) := by decide +kernel
theorem dL_asks_256 : decode cL_asks 256 = .ok (.iload 4, 2) := by decide +kernel
theorem dL_asks_258 : decode cL_asks 258 = .ok (.iload_n 1, 1) := by decide +kernel
theorem dL_asks_259 : decode cL_asks 259 = .ok (.if_icmp .ge 76, 3) := by decide +kernel
theorem dL_asks_262 : decode cL_asks 262 = .ok (.ldc2_w 191, 3) := by decide +kernel
theorem dL_asks_265 : decode cL_asks 265 = .ok (.ldc2_w 191, 3) := by decide +kernel
theorem dL_asks_268 : decode cL_asks 268 = .ok (.lload_n 2, 1) := by decide +kernel
theorem dL_asks_269 : decode cL_asks 269 = .ok (.lmul, 1) := by decide +kernel
theorem dL_asks_270 : decode cL_asks 270 = .ok (.aload_n 0, 1) := by decide +kernel
theorem dL_asks_271 : decode cL_asks 271 = .ok (.iload 4, 2) := by decide +kernel
theorem dL_asks_273 : decode cL_asks 273 = .ok (.invokestatic 250, 3) := by decide +kernel
theorem dL_asks_276 : decode cL_asks 276 = .ok (.i2l, 1) := by decide +kernel
theorem dL_asks_277 : decode cL_asks 277 = .ok (.ladd, 1) := by decide +kernel
theorem dL_asks_278 : decode cL_asks 278 = .ok (.lmul, 1) := by decide +kernel
theorem dL_asks_279 : decode cL_asks 279 = .ok (.aload_n 0, 1) := by decide +kernel
theorem dL_asks_280 : decode cL_asks 280 = .ok (.iload 4, 2) := by decide +kernel
theorem dL_asks_282 : decode cL_asks 282 = .ok (.invokestatic 253, 3) := by decide +kernel
theorem dL_asks_285 : decode cL_asks 285 = .ok (.invokestatic 206, 3) := by decide +kernel
theorem dL_asks_288 : decode cL_asks 288 = .ok (.i2l, 1) := by decide +kernel
theorem dL_asks_289 : decode cL_asks 289 = .ok (.ladd, 1) := by decide +kernel
theorem dL_asks_290 : decode cL_asks 290 = .ok (.lstore_n 2, 1) := by decide +kernel
theorem dL_asks_291 : decode cL_asks 291 = .ok (.aload_n 0, 1) := by decide +kernel
theorem dL_asks_292 : decode cL_asks 292 = .ok (.iload 4, 2) := by decide +kernel
theorem dL_asks_294 : decode cL_asks 294 = .ok (.invokestatic 255, 3) := by decide +kernel
theorem dL_asks_297 : decode cL_asks 297 = .ok (.istore 5, 2) := by decide +kernel
theorem dL_asks_299 : decode cL_asks 299 = .ok (.iconst 0, 1) := by decide +kernel
theorem dL_asks_300 : decode cL_asks 300 = .ok (.istore 6, 2) := by decide +kernel
theorem dL_asks_302 : decode cL_asks 302 = .ok (.iload 6, 2) := by decide +kernel
theorem dL_asks_304 : decode cL_asks 304 = .ok (.iload 5, 2) := by decide +kernel
theorem dL_asks_306 : decode cL_asks 306 = .ok (.if_icmp .ge 23, 3) := by decide +kernel
theorem dL_asks_309 : decode cL_asks 309 = .ok (.ldc2_w 191, 3) := by decide +kernel
theorem dL_asks_312 : decode cL_asks 312 = .ok (.lload_n 2, 1) := by decide +kernel
theorem dL_asks_313 : decode cL_asks 313 = .ok (.lmul, 1) := by decide +kernel
theorem dL_asks_314 : decode cL_asks 314 = .ok (.aload_n 0, 1) := by decide +kernel
theorem dL_asks_315 : decode cL_asks 315 = .ok (.iload 6, 2) := by decide +kernel
theorem dL_asks_317 : decode cL_asks 317 = .ok (.invokestatic 165, 3) := by decide +kernel
theorem dL_asks_320 : decode cL_asks 320 = .ok (.i2l, 1) := by decide +kernel
theorem dL_asks_321 : decode cL_asks 321 = .ok (.ladd, 1) := by decide +kernel
theorem dL_asks_322 : decode cL_asks 322 = .ok (.lstore_n 2, 1) := by decide +kernel
theorem dL_asks_323 : decode cL_asks 323 = .ok (.iinc 6 1, 3) := by decide +kernel
theorem dL_asks_326 : decode cL_asks 326 = .ok (.goto (-24), 3) := by decide +kernel
theorem dL_asks_329 : decode cL_asks 329 = .ok (.iinc 4 1, 3) := by decide +kernel
theorem dL_asks_332 : decode cL_asks 332 = .ok (.goto (-76), 3) := by decide +kernel
theorem dL_asks_335 : decode cL_asks 335 = .ok (.lload_n 2, 1) := by decide +kernel
theorem dL_asks_336 : decode cL_asks 336 = .ok (.lreturn, 1) := by decide +kernel
theorem dL_changes_0 : decode cL_changes 0 = .ok (.iload_n 1, 1) := by decide +kernel
theorem dL_changes_1 : decode cL_changes 1 = .ok (.iconst 4, 1) := by decide +kernel
theorem dL_changes_2 : decode cL_changes 2 = .ok (.ishr, 1) := by decide +kernel
theorem dL_changes_3 : decode cL_changes 3 = .ok (.aload_n 0, 1) := by decide +kernel
theorem dL_changes_4 : decode cL_changes 4 = .ok (.invokevirtual 188, 3) := by decide +kernel
theorem dL_changes_7 : decode cL_changes 7 = .ok (.iconst 1, 1) := by decide +kernel
theorem dL_changes_8 : decode cL_changes 8 = .ok (.iadd, 1) := by decide +kernel
theorem dL_changes_9 : decode cL_changes 9 = .ok (.invokestatic 172, 3) := by decide +kernel
theorem dL_changes_12 : decode cL_changes 12 = .ok (.istore_n 2, 1) := by decide +kernel
theorem dL_changes_13 : decode cL_changes 13 = .ok (.iload_n 1, 1) := by decide +kernel
theorem dL_changes_14 : decode cL_changes 14 = .ok (.bipush 8, 2) := by decide +kernel
theorem dL_changes_16 : decode cL_changes 16 = .ok (.ishr, 1) := by decide +kernel
theorem dL_changes_17 : decode cL_changes 17 = .ok (.aload_n 0, 1) := by decide +kernel
theorem dL_changes_18 : decode cL_changes 18 = .ok (.invokevirtual 188, 3) := by decide +kernel
theorem dL_changes_21 : decode cL_changes 21 = .ok (.iconst 1, 1) := by decide +kernel
theorem dL_changes_22 : decode cL_changes 22 = .ok (.iadd, 1) := by decide +kernel
theorem dL_changes_23 : decode cL_changes 23 = .ok (.invokestatic 172, 3) := by decide +kernel
theorem dL_changes_26 : decode cL_changes 26 = .ok (.istore_n 3, 1) := by decide +kernel
theorem dL_changes_27 : decode cL_changes 27 = .ok (.iload_n 1, 1) := by decide +kernel
theorem dL_changes_28 : decode cL_changes 28 = .ok (.iconst 4, 1) := by decide +kernel
theorem dL_changes_29 : decode cL_changes 29 = .ok (.ishr, 1) := by decide +kernel
theorem dL_changes_30 : decode cL_changes 30 = .ok (.iconst 5, 1) := by decide +kernel
theorem dL_changes_31 : decode cL_changes 31 = .ok (.invokestatic 172, 3) := by decide +kernel
theorem dL_changes_34 : decode cL_changes 34 = .ok (.istore 4, 2) := by decide +kernel
theorem dL_changes_36 : decode cL_changes 36 = .ok (.iload_n 1, 1) := by decide +kernel
theorem dL_changes_37 : decode cL_changes 37 = .ok (.bipush 24, 2) := by decide +kernel
theorem dL_changes_39 : decode cL_changes 39 = .ok (.invokestatic 172, 3) := by decide +kernel
theorem dL_changes_42 : decode cL_changes 42 = .ok (.tableswitch 374 0 17 #[86, 86, 86, 119, 133, 133, 164, 164, 187, 187, 187, 211, 211, 235, 235, 265, 289, 289], 86) := by decide +kernel
theorem dL_changes_128 : decode cL_changes 128 = .ok (.aload_n 0, 1) := by decide +kernel
theorem dL_changes_129 : decode cL_changes 129 = .ok (.iload 4, 2) := by decide +kernel
theorem dL_changes_131 : decode cL_changes 131 = .ok (.iload_n 1, 1) := by decide +kernel
theorem dL_changes_132 : decode cL_changes 132 = .ok (.bipush 7, 2) := by decide +kernel
theorem dL_changes_134 : decode cL_changes 134 = .ok (.ishr, 1) := by decide +kernel
theorem dL_changes_135 : decode cL_changes 135 = .ok (.bipush 7, 2) := by decide +kernel
theorem dL_changes_137 : decode cL_changes 137 = .ok (.invokestatic 172, 3) := by decide +kernel
theorem dL_changes_140 : decode cL_changes 140 = .ok (.iload_n 1, 1) := by decide +kernel
theorem dL_changes_141 : decode cL_changes 141 = .ok (.bipush 10, 2) := by decide +kernel
theorem dL_changes_143 : decode cL_changes 143 = .ok (.ishr, 1) := by decide +kernel
theorem dL_changes_144 : decode cL_changes 144 = .ok (.bipush 22, 2) := by decide +kernel
theorem dL_changes_146 : decode cL_changes 146 = .ok (.invokestatic 172, 3) := by decide +kernel
theorem dL_changes_149 : decode cL_changes 149 = .ok (.invokestatic 175, 3) := by decide +kernel
theorem dL_changes_152 : decode cL_changes 152 = .ok (.ifCond .lt 7, 3) := by decide +kernel
theorem dL_changes_155 : decode cL_changes 155 = .ok (.iconst 1, 1) := by decide +kernel
theorem dL_changes_156 : decode cL_changes 156 = .ok (.goto 4, 3) := by decide +kernel
theorem dL_changes_159 : decode cL_changes 159 = .ok (.iconst 0, 1) := by decide +kernel
theorem dL_changes_160 : decode cL_changes 160 = .ok (.ireturn, 1) := by decide +kernel
theorem dL_changes_161 : decode cL_changes 161 = .ok (.aload_n 0, 1) := by decide +kernel
theorem dL_changes_162 : decode cL_changes 162 = .ok (.iload_n 2, 1) := by decide +kernel
theorem dL_changes_163 : decode cL_changes 163 = .ok (.invokestatic 257, 3) := by decide +kernel
theorem dL_changes_166 : decode cL_changes 166 = .ok (.ifCond .lt 7, 3) := by decide +kernel
theorem dL_changes_169 : decode cL_changes 169 = .ok (.iconst 1, 1) := by decide +kernel
theorem dL_changes_170 : decode cL_changes 170 = .ok (.goto 4, 3) := by decide +kernel
theorem dL_changes_173 : decode cL_changes 173 = .ok (.iconst 0, 1) := by decide +kernel
theorem dL_changes_174 : decode cL_changes 174 = .ok (.ireturn, 1) := by decide +kernel
theorem dL_changes_175 : decode cL_changes 175 = .ok (.aload_n 0, 1) := by decide +kernel
theorem dL_changes_176 : decode cL_changes 176 = .ok (.iload_n 2, 1) := by decide +kernel
theorem dL_changes_177 : decode cL_changes 177 = .ok (.iload_n 1, 1) := by decide +kernel
theorem dL_changes_178 : decode cL_changes 178 = .ok (.bipush 8, 2) := by decide +kernel
theorem dL_changes_180 : decode cL_changes 180 = .ok (.ishr, 1) := by decide +kernel
theorem dL_changes_181 : decode cL_changes 181 = .ok (.iconst 5, 1) := by decide +kernel
theorem dL_changes_182 : decode cL_changes 182 = .ok (.invokestatic 172, 3) := by decide +kernel
theorem dL_changes_185 : decode cL_changes 185 = .ok (.iload_n 1, 1) := by decide +kernel
theorem dL_changes_186 : decode cL_changes 186 = .ok (.bipush 11, 2) := by decide +kernel
theorem dL_changes_188 : decode cL_changes 188 = .ok (.ishr, 1) := by decide +kernel
theorem dL_changes_189 : decode cL_changes 189 = .ok (.bipush 7, 2) := by decide +kernel
theorem dL_changes_191 : decode cL_changes 191 = .ok (.invokestatic 172, 3) := by decide +kernel
theorem dL_changes_194 : decode cL_changes 194 = .ok (.invokestatic 259, 3) := by decide +kernel
theorem dL_changes_197 : decode cL_changes 197 = .ok (.ifCond .lt 7, 3) := by decide +kernel
theorem dL_changes_200 : decode cL_changes 200 = .ok (.iconst 1, 1) := by decide +kernel
theorem dL_changes_201 : decode cL_changes 201 = .ok (.goto 4, 3) := by decide +kernel
theorem dL_changes_204 : decode cL_changes 204 = .ok (.iconst 0, 1) := by decide +kernel
theorem dL_changes_205 : decode cL_changes 205 = .ok (.ireturn, 1) := by decide +kernel
theorem dL_changes_206 : decode cL_changes 206 = .ok (.aload_n 0, 1) := by decide +kernel
theorem dL_changes_207 : decode cL_changes 207 = .ok (.iload_n 2, 1) := by decide +kernel
theorem dL_changes_208 : decode cL_changes 208 = .ok (.iload_n 1, 1) := by decide +kernel
theorem dL_changes_209 : decode cL_changes 209 = .ok (.bipush 8, 2) := by decide +kernel
theorem dL_changes_211 : decode cL_changes 211 = .ok (.ishr, 1) := by decide +kernel
theorem dL_changes_212 : decode cL_changes 212 = .ok (.bipush 22, 2) := by decide +kernel
theorem dL_changes_214 : decode cL_changes 214 = .ok (.invokestatic 172, 3) := by decide +kernel
theorem dL_changes_217 : decode cL_changes 217 = .ok (.invokestatic 261, 3) := by decide +kernel
theorem dL_changes_220 : decode cL_changes 220 = .ok (.ifCond .lt 7, 3) := by decide +kernel
theorem dL_changes_223 : decode cL_changes 223 = .ok (.iconst 1, 1) := by decide +kernel
theorem dL_changes_224 : decode cL_changes 224 = .ok (.goto 4, 3) := by decide +kernel
theorem dL_changes_227 : decode cL_changes 227 = .ok (.iconst 0, 1) := by decide +kernel
theorem dL_changes_228 : decode cL_changes 228 = .ok (.ireturn, 1) := by decide +kernel
theorem dL_changes_229 : decode cL_changes 229 = .ok (.aload_n 0, 1) := by decide +kernel
theorem dL_changes_230 : decode cL_changes 230 = .ok (.iload_n 2, 1) := by decide +kernel
theorem dL_changes_231 : decode cL_changes 231 = .ok (.iload_n 3, 1) := by decide +kernel
theorem dL_changes_232 : decode cL_changes 232 = .ok (.iload_n 1, 1) := by decide +kernel
theorem dL_changes_233 : decode cL_changes 233 = .ok (.bipush 12, 2) := by decide +kernel
theorem dL_changes_235 : decode cL_changes 235 = .ok (.ishr, 1) := by decide +kernel
theorem dL_changes_236 : decode cL_changes 236 = .ok (.bipush 9, 2) := by decide +kernel
theorem dL_changes_238 : decode cL_changes 238 = .ok (.invokestatic 172, 3) := by decide +kernel
theorem dL_changes_241 : decode cL_changes 241 = .ok (.invokestatic 263, 3) := by decide +kernel
theorem dL_changes_244 : decode cL_changes 244 = .ok (.ifCond .lt 7, 3) := by decide +kernel
theorem dL_changes_247 : decode cL_changes 247 = .ok (.iconst 1, 1) := by decide +kernel
theorem dL_changes_248 : decode cL_changes 248 = .ok (.goto 4, 3) := by decide +kernel
theorem dL_changes_251 : decode cL_changes 251 = .ok (.iconst 0, 1) := by decide +kernel
theorem dL_changes_252 : decode cL_changes 252 = .ok (.ireturn, 1) := by decide +kernel
theorem dL_changes_253 : decode cL_changes 253 = .ok (.aload_n 0, 1) := by decide +kernel
theorem dL_changes_254 : decode cL_changes 254 = .ok (.iload 4, 2) := by decide +kernel
theorem dL_changes_256 : decode cL_changes 256 = .ok (.iload_n 1, 1) := by decide +kernel
theorem dL_changes_257 : decode cL_changes 257 = .ok (.bipush 7, 2) := by decide +kernel
theorem dL_changes_259 : decode cL_changes 259 = .ok (.ishr, 1) := by decide +kernel
theorem dL_changes_260 : decode cL_changes 260 = .ok (.bipush 12, 2) := by decide +kernel
theorem dL_changes_262 : decode cL_changes 262 = .ok (.invokestatic 172, 3) := by decide +kernel
theorem dL_changes_265 : decode cL_changes 265 = .ok (.invokestatic 178, 3) := by decide +kernel
theorem dL_changes_268 : decode cL_changes 268 = .ok (.ifCond .lt 7, 3) := by decide +kernel
theorem dL_changes_271 : decode cL_changes 271 = .ok (.iconst 1, 1) := by decide +kernel
theorem dL_changes_272 : decode cL_changes 272 = .ok (.goto 4, 3) := by decide +kernel
theorem dL_changes_275 : decode cL_changes 275 = .ok (.iconst 0, 1) := by decide +kernel
theorem dL_changes_276 : decode cL_changes 276 = .ok (.ireturn, 1) := by decide +kernel
theorem dL_changes_277 : decode cL_changes 277 = .ok (.aload_n 0, 1) := by decide +kernel
theorem dL_changes_278 : decode cL_changes 278 = .ok (.iload_n 1, 1) := by decide +kernel
theorem dL_changes_279 : decode cL_changes 279 = .ok (.iconst 4, 1) := by decide +kernel
theorem dL_changes_280 : decode cL_changes 280 = .ok (.ishr, 1) := by decide +kernel
theorem dL_changes_281 : decode cL_changes 281 = .ok (.iconst 4, 1) := by decide +kernel
theorem dL_changes_282 : decode cL_changes 282 = .ok (.invokestatic 172, 3) := by decide +kernel
theorem dL_changes_285 : decode cL_changes 285 = .ok (.iload_n 1, 1) := by decide +kernel
theorem dL_changes_286 : decode cL_changes 286 = .ok (.bipush 6, 2) := by decide +kernel
theorem dL_changes_288 : decode cL_changes 288 = .ok (.ishr, 1) := by decide +kernel
theorem dL_changes_289 : decode cL_changes 289 = .ok (.sipush 202, 3) := by decide +kernel
theorem dL_changes_292 : decode cL_changes 292 = .ok (.invokestatic 172, 3) := by decide +kernel
theorem dL_changes_295 : decode cL_changes 295 = .ok (.invokestatic 181, 3) := by decide +kernel
theorem dL_changes_298 : decode cL_changes 298 = .ok (.ifCond .lt 7, 3) := by decide +kernel
theorem dL_changes_301 : decode cL_changes 301 = .ok (.iconst 1, 1) := by decide +kernel
theorem dL_changes_302 : decode cL_changes 302 = .ok (.goto 4, 3) := by decide +kernel
theorem dL_changes_305 : decode cL_changes 305 = .ok (.iconst 0, 1) := by decide +kernel
theorem dL_changes_306 : decode cL_changes 306 = .ok (.ireturn, 1) := by decide +kernel
theorem dL_changes_307 : decode cL_changes 307 = .ok (.aload_n 0, 1) := by decide +kernel
theorem dL_changes_308 : decode cL_changes 308 = .ok (.bipush 19, 2) := by decide +kernel
theorem dL_changes_310 : decode cL_changes 310 = .ok (.iload_n 1, 1) := by decide +kernel
theorem dL_changes_311 : decode cL_changes 311 = .ok (.iconst 4, 1) := by decide +kernel
theorem dL_changes_312 : decode cL_changes 312 = .ok (.ishr, 1) := by decide +kernel
theorem dL_changes_313 : decode cL_changes 313 = .ok (.bipush 43, 2) := by decide +kernel
theorem dL_changes_315 : decode cL_changes 315 = .ok (.invokestatic 172, 3) := by decide +kernel
theorem dL_changes_318 : decode cL_changes 318 = .ok (.iadd, 1) := by decide +kernel
theorem dL_changes_319 : decode cL_changes 319 = .ok (.invokestatic 184, 3) := by decide +kernel
theorem dL_changes_322 : decode cL_changes 322 = .ok (.ifCond .lt 7, 3) := by decide +kernel
theorem dL_changes_325 : decode cL_changes 325 = .ok (.iconst 1, 1) := by decide +kernel
theorem dL_changes_326 : decode cL_changes 326 = .ok (.goto 4, 3) := by decide +kernel
theorem dL_changes_329 : decode cL_changes 329 = .ok (.iconst 0, 1) := by decide +kernel
theorem dL_changes_330 : decode cL_changes 330 = .ok (.ireturn, 1) := by decide +kernel
theorem dL_changes_331 : decode cL_changes 331 = .ok (.aload_n 0, 1) := by decide +kernel
theorem dL_changes_332 : decode cL_changes 332 = .ok (.iload_n 1, 1) := by decide +kernel
theorem dL_changes_333 : decode cL_changes 333 = .ok (.bipush 6, 2) := by decide +kernel
theorem dL_changes_335 : decode cL_changes 335 = .ok (.ishr, 1) := by decide +kernel
theorem dL_changes_336 : decode cL_changes 336 = .ok (.iconst 1, 1) := by decide +kernel
theorem dL_changes_337 : decode cL_changes 337 = .ok (.iand, 1) := by decide +kernel
theorem dL_changes_338 : decode cL_changes 338 = .ok (.ifCond .ne 33, 3) := by decide +kernel
theorem dL_changes_341 : decode cL_changes 341 = .ok (.new 265, 3) := by decide +kernel
theorem dL_changes_344 : decode cL_changes 344 = .ok (.dup, 1) := by decide +kernel
theorem dL_changes_345 : decode cL_changes 345 = .ok (.invokespecial 267, 3) := by decide +kernel
theorem dL_changes_348 : decode cL_changes 348 = .ok (.ldc_w 268, 3) := by decide +kernel
theorem dL_changes_351 : decode cL_changes 351 = .ok (.invokevirtual 270, 3) := by decide +kernel
theorem dL_changes_354 : decode cL_changes 354 = .ok (.iload_n 1, 1) := by decide +kernel
theorem dL_changes_355 : decode cL_changes 355 = .ok (.iconst 4, 1) := by decide +kernel
theorem dL_changes_356 : decode cL_changes 356 = .ok (.ishr, 1) := by decide +kernel
theorem dL_changes_357 : decode cL_changes 357 = .ok (.bipush 13, 2) := by decide +kernel
theorem dL_changes_359 : decode cL_changes 359 = .ok (.invokestatic 172, 3) := by decide +kernel
theorem dL_changes_362 : decode cL_changes 362 = .ok (.invokevirtual 274, 3) := by decide +kernel
theorem dL_changes_365 : decode cL_changes 365 = .ok (.invokevirtual 277, 3) := by decide +kernel
theorem dL_changes_368 : decode cL_changes 368 = .ok (.goto 36, 3) := by decide +kernel
theorem dL_changes_371 : decode cL_changes 371 = .ok (.new 265, 3) := by decide +kernel
theorem dL_changes_374 : decode cL_changes 374 = .ok (.dup, 1) := by decide +kernel
theorem dL_changes_375 : decode cL_changes 375 = .ok (.invokespecial 267, 3) := by decide +kernel
theorem dL_changes_378 : decode cL_changes 378 = .ok (.ldc_w 281, 3) := by decide +kernel
theorem dL_changes_381 : decode cL_changes 381 = .ok (.invokevirtual 270, 3) := by decide +kernel
theorem dL_changes_384 : decode cL_changes 384 = .ok (.iload_n 1, 1) := by decide +kernel
theorem dL_changes_385 : decode cL_changes 385 = .ok (.iconst 4, 1) := by decide +kernel
theorem dL_changes_386 : decode cL_changes 386 = .ok (.ishr, 1) := by decide +kernel
theorem dL_changes_387 : decode cL_changes 387 = .ok (.bipush 6, 2) := by decide +kernel
theorem dL_changes_389 : decode cL_changes 389 = .ok (.invokestatic 172, 3) := by decide +kernel
theorem dL_changes_392 : decode cL_changes 392 = .ok (.invokevirtual 274, 3) := by decide +kernel
theorem dL_changes_395 : decode cL_changes 395 = .ok (.ldc_w 283, 3) := by decide +kernel
theorem dL_changes_398 : decode cL_changes 398 = .ok (.invokevirtual 270, 3) := by decide +kernel
theorem dL_changes_401 : decode cL_changes 401 = .ok (.invokevirtual 277, 3) := by decide +kernel
theorem dL_changes_404 : decode cL_changes 404 = .ok (.invokestatic 285, 3) := by decide +kernel
theorem dL_changes_407 : decode cL_changes 407 = .ok (.ifCond .lt 7, 3) := by decide +kernel
theorem dL_changes_410 : decode cL_changes 410 = .ok (.iconst 1, 1) := by decide +kernel
theorem dL_changes_411 : decode cL_changes 411 = .ok (.goto 4, 3) := by decide +kernel
theorem dL_changes_414 : decode cL_changes 414 = .ok (.iconst 0, 1) := by decide +kernel
theorem dL_changes_415 : decode cL_changes 415 = .ok (.ireturn, 1) := by decide +kernel
theorem dL_changes_416 : decode cL_changes 416 = .ok (.aload_n 0, 1) := by decide +kernel
theorem dL_changes_417 : decode cL_changes 417 = .ok (.iload_n 1, 1) := by decide +kernel
theorem dL_changes_418 : decode cL_changes 418 = .ok (.iconst 4, 1) := by decide +kernel
theorem dL_changes_419 : decode cL_changes 419 = .ok (.ishr, 1) := by decide +kernel
theorem dL_changes_420 : decode cL_changes 420 = .ok (.bipush 20, 2) := by decide +kernel
theorem dL_changes_422 : decode cL_changes 422 = .ok (.invokestatic 172, 3) := by decide +kernel
theorem dL_changes_425 : decode cL_changes 425 = .ok (.invokestatic 186, 3) := by decide +kernel
theorem dL_changes_428 : decode cL_changes 428 = .ok (.ifCond .lt 7, 3) := by decide +kernel
theorem dL_changes_431 : decode cL_changes 431 = .ok (.iconst 1, 1) := by decide +kernel
theorem dL_changes_432 : decode cL_changes 432 = .ok (.goto 4, 3) := by decide +kernel
theorem dL_changes_435 : decode cL_changes 435 = .ok (.iconst 0, 1) := by decide +kernel
theorem dL_changes_436 : decode cL_changes 436 = .ok (.ireturn, 1) := by decide +kernel
theorem dL_thrown_0 : decode cL_thrown 0 = .ok (.aload_n 0, 1) := by decide +kernel
theorem dL_thrown_1 : decode cL_thrown 1 = .ok (.invokestatic 289, 3) := by decide +kernel
theorem dL_thrown_4 : decode cL_thrown 4 = .ok (.lstore_n 1, 1) := by decide +kernel
theorem dL_thrown_5 : decode cL_thrown 5 = .ok (.aload_n 0, 1) := by decide +kernel
theorem dL_thrown_6 : decode cL_thrown 6 = .ok (.invokevirtual 188, 3) := by decide +kernel
theorem dL_thrown_9 : decode cL_thrown 9 = .ok (.istore_n 3, 1) := by decide +kernel
theorem dL_thrown_10 : decode cL_thrown 10 = .ok (.aload_n 0, 1) := by decide +kernel
theorem dL_thrown_11 : decode cL_thrown 11 = .ok (.iconst 4, 1) := by decide +kernel
theorem dL_thrown_12 : decode cL_thrown 12 = .ok (.bipush 9, 2) := by decide +kernel
theorem dL_thrown_14 : decode cL_thrown 14 = .ok (.bipush 99, 2) := by decide +kernel
theorem dL_thrown_16 : decode cL_thrown 16 = .ok (.invokestatic 175, 3) := by decide +kernel
theorem dL_thrown_19 : decode cL_thrown 19 = .ok (.sipush (-1001), 3) := by decide +kernel
theorem dL_thrown_22 : decode cL_thrown 22 = .ok (.if_icmp .ne 482, 3) := by decide +kernel
theorem dL_thrown_25 : decode cL_thrown 25 = .ok (.aload_n 0, 1) := by decide +kernel
theorem dL_thrown_26 : decode cL_thrown 26 = .ok (.iconst (-1), 1) := by decide +kernel
theorem dL_thrown_27 : decode cL_thrown 27 = .ok (.iconst 0, 1) := by decide +kernel
theorem dL_thrown_28 : decode cL_thrown 28 = .ok (.iconst 0, 1) := by decide +kernel
theorem dL_thrown_29 : decode cL_thrown 29 = .ok (.invokestatic 175, 3) := by decide +kernel
theorem dL_thrown_32 : decode cL_thrown 32 = .ok (.sipush (-1001), 3) := by decide +kernel
theorem dL_thrown_35 : decode cL_thrown 35 = .ok (.if_icmp .ne 469, 3) := by decide +kernel
theorem dL_thrown_38 : decode cL_thrown 38 = .ok (.aload_n 0, 1) := by decide +kernel
theorem dL_thrown_39 : decode cL_thrown 39 = .ok (.iconst 0, 1) := by decide +kernel
theorem dL_thrown_40 : decode cL_thrown 40 = .ok (.bipush 6, 2) := by decide +kernel
theorem dL_thrown_42 : decode cL_thrown 42 = .ok (.iconst 0, 1) := by decide +kernel
theorem dL_thrown_43 : decode cL_thrown 43 = .ok (.invokestatic 175, 3) := by decide +kernel
theorem dL_thrown_46 : decode cL_thrown 46 = .ok (.sipush (-1002), 3) := by decide +kernel
theorem dL_thrown_49 : decode cL_thrown 49 = .ok (.if_icmp .ne 455, 3) := by decide +kernel
theorem dL_thrown_52 : decode cL_thrown 52 = .ok (.aload_n 0, 1) := by decide +kernel
theorem dL_thrown_53 : decode cL_thrown 53 = .ok (.iconst 0, 1) := by decide +kernel
theorem dL_thrown_54 : decode cL_thrown 54 = .ok (.iconst (-1), 1) := by decide +kernel
theorem dL_thrown_55 : decode cL_thrown 55 = .ok (.iconst 0, 1) := by decide +kernel
theorem dL_thrown_56 : decode cL_thrown 56 = .ok (.invokestatic 175, 3) := by decide +kernel
theorem dL_thrown_59 : decode cL_thrown 59 = .ok (.sipush (-1002), 3) := by decide +kernel
theorem dL_thrown_62 : decode cL_thrown 62 = .ok (.if_icmp .ne 442, 3) := by decide +kernel
theorem dL_thrown_65 : decode cL_thrown 65 = .ok (.aload_n 0, 1) := by decide +kernel
theorem dL_thrown_66 : decode cL_thrown 66 = .ok (.iconst 0, 1) := by decide +kernel
theorem dL_thrown_67 : decode cL_thrown 67 = .ok (.iconst 0, 1) := by decide +kernel
theorem dL_thrown_68 : decode cL_thrown 68 = .ok (.bipush 21, 2) := by decide +kernel
theorem dL_thrown_70 : decode cL_thrown 70 = .ok (.invokestatic 175, 3) := by decide +kernel
theorem dL_thrown_73 : decode cL_thrown 73 = .ok (.sipush (-1002), 3) := by decide +kernel
theorem dL_thrown_76 : decode cL_thrown 76 = .ok (.if_icmp .ne 428, 3) := by decide +kernel
theorem dL_thrown_79 : decode cL_thrown 79 = .ok (.aload_n 0, 1) := by decide +kernel
theorem dL_thrown_80 : decode cL_thrown 80 = .ok (.iconst 0, 1) := by decide +kernel
theorem dL_thrown_81 : decode cL_thrown 81 = .ok (.iconst 0, 1) := by decide +kernel
theorem dL_thrown_82 : decode cL_thrown 82 = .ok (.iconst (-1), 1) := by decide +kernel
theorem dL_thrown_83 : decode cL_thrown 83 = .ok (.invokestatic 175, 3) := by decide +kernel
theorem dL_thrown_86 : decode cL_thrown 86 = .ok (.sipush (-1002), 3) := by decide +kernel
theorem dL_thrown_89 : decode cL_thrown 89 = .ok (.if_icmp .ne 415, 3) := by decide +kernel
theorem dL_thrown_92 : decode cL_thrown 92 = .ok (.iload_n 3, 1) := by decide +kernel
theorem dL_thrown_93 : decode cL_thrown 93 = .ok (.bipush 12, 2) := by decide +kernel
theorem dL_thrown_95 : decode cL_thrown 95 = .ok (.if_icmp .lt 16, 3) := by decide +kernel
theorem dL_thrown_98 : decode cL_thrown 98 = .ok (.aload_n 0, 1) := by decide +kernel
theorem dL_thrown_99 : decode cL_thrown 99 = .ok (.iconst 0, 1) := by decide +kernel
theorem dL_thrown_100 : decode cL_thrown 100 = .ok (.iconst 0, 1) := by decide +kernel
theorem dL_thrown_101 : decode cL_thrown 101 = .ok (.iconst 0, 1) := by decide +kernel
theorem dL_thrown_102 : decode cL_thrown 102 = .ok (.invokestatic 175, 3) := by decide +kernel
theorem dL_thrown_105 : decode cL_thrown 105 = .ok (.sipush (-1003), 3) := by decide +kernel
theorem dL_thrown_108 : decode cL_thrown 108 = .ok (.if_icmp .ne 396, 3) := by decide +kernel
theorem dL_thrown_111 : decode cL_thrown 111 = .ok (.aload_n 0, 1) := by decide +kernel
theorem dL_thrown_112 : decode cL_thrown 112 = .ok (.iload_n 3, 1) := by decide +kernel
theorem dL_thrown_113 : decode cL_thrown 113 = .ok (.invokestatic 257, 3) := by decide +kernel
theorem dL_thrown_116 : decode cL_thrown 116 = .ok (.sipush (-1001), 3) := by decide +kernel
theorem dL_thrown_119 : decode cL_thrown 119 = .ok (.if_icmp .ne 385, 3) := by decide +kernel
theorem dL_thrown_122 : decode cL_thrown 122 = .ok (.aload_n 0, 1) := by decide +kernel
theorem dL_thrown_123 : decode cL_thrown 123 = .ok (.iconst (-1), 1) := by decide +kernel
theorem dL_thrown_124 : decode cL_thrown 124 = .ok (.invokestatic 257, 3) := by decide +kernel
theorem dL_thrown_127 : decode cL_thrown 127 = .ok (.sipush (-1001), 3) := by decide +kernel
theorem dL_thrown_130 : decode cL_thrown 130 = .ok (.if_icmp .ne 374, 3) := by decide +kernel
theorem dL_thrown_133 : decode cL_thrown 133 = .ok (.aload_n 0, 1) := by decide +kernel
theorem dL_thrown_134 : decode cL_thrown 134 = .ok (.iload_n 3, 1) := by decide +kernel
theorem dL_thrown_135 : decode cL_thrown 135 = .ok (.iconst 0, 1) := by decide +kernel
theorem dL_thrown_136 : decode cL_thrown 136 = .ok (.bipush 9, 2) := by decide +kernel
theorem dL_thrown_138 : decode cL_thrown 138 = .ok (.invokestatic 259, 3) := by decide +kernel
theorem dL_thrown_141 : decode cL_thrown 141 = .ok (.sipush (-1001), 3) := by decide +kernel
theorem dL_thrown_144 : decode cL_thrown 144 = .ok (.if_icmp .ne 360, 3) := by decide +kernel
theorem dL_thrown_147 : decode cL_thrown 147 = .ok (.aload_n 0, 1) := by decide +kernel
theorem dL_thrown_148 : decode cL_thrown 148 = .ok (.iconst 0, 1) := by decide +kernel
theorem dL_thrown_149 : decode cL_thrown 149 = .ok (.iconst 4, 1) := by decide +kernel
theorem dL_thrown_150 : decode cL_thrown 150 = .ok (.bipush 9, 2) := by decide +kernel
theorem dL_thrown_152 : decode cL_thrown 152 = .ok (.invokestatic 259, 3) := by decide +kernel
theorem dL_thrown_155 : decode cL_thrown 155 = .ok (.sipush (-1001), 3) := by decide +kernel
theorem dL_thrown_158 : decode cL_thrown 158 = .ok (.if_icmp .ne 346, 3) := by decide +kernel
theorem dL_thrown_161 : decode cL_thrown 161 = .ok (.aload_n 0, 1) := by decide +kernel
theorem dL_thrown_162 : decode cL_thrown 162 = .ok (.iconst 0, 1) := by decide +kernel
theorem dL_thrown_163 : decode cL_thrown 163 = .ok (.iconst 0, 1) := by decide +kernel
theorem dL_thrown_164 : decode cL_thrown 164 = .ok (.bipush 6, 2) := by decide +kernel
theorem dL_thrown_166 : decode cL_thrown 166 = .ok (.invokestatic 259, 3) := by decide +kernel
theorem dL_thrown_169 : decode cL_thrown 169 = .ok (.sipush (-1002), 3) := by decide +kernel
theorem dL_thrown_172 : decode cL_thrown 172 = .ok (.if_icmp .ne 332, 3) := by decide +kernel
theorem dL_thrown_175 : decode cL_thrown 175 = .ok (.aload_n 0, 1) := by decide +kernel
theorem dL_thrown_176 : decode cL_thrown 176 = .ok (.iload_n 3, 1) := by decide +kernel
theorem dL_thrown_177 : decode cL_thrown 177 = .ok (.bipush 99, 2) := by decide +kernel
theorem dL_thrown_179 : decode cL_thrown 179 = .ok (.invokestatic 261, 3) := by decide +kernel
theorem dL_thrown_182 : decode cL_thrown 182 = .ok (.sipush (-1001), 3) := by decide +kernel
theorem dL_thrown_185 : decode cL_thrown 185 = .ok (.if_icmp .ne 319, 3) := by decide +kernel
theorem dL_thrown_188 : decode cL_thrown 188 = .ok (.aload_n 0, 1) := by decide +kernel
theorem dL_thrown_189 : decode cL_thrown 189 = .ok (.iconst 0, 1) := by decide +kernel
theorem dL_thrown_190 : decode cL_thrown 190 = .ok (.bipush 21, 2) := by decide +kernel
theorem dL_thrown_192 : decode cL_thrown 192 = .ok (.invokestatic 261, 3) := by decide +kernel
theorem dL_thrown_195 : decode cL_thrown 195 = .ok (.sipush (-1002), 3) := by decide +kernel
theorem dL_thrown_198 : decode cL_thrown 198 = .ok (.if_icmp .ne 306, 3) := by decide +kernel
theorem dL_thrown_201 : decode cL_thrown 201 = .ok (.aload_n 0, 1) := by decide +kernel
theorem dL_thrown_202 : decode cL_thrown 202 = .ok (.iconst 0, 1) := by decide +kernel
theorem dL_thrown_203 : decode cL_thrown 203 = .ok (.iconst (-1), 1) := by decide +kernel
theorem dL_thrown_204 : decode cL_thrown 204 = .ok (.invokestatic 261, 3) := by decide +kernel
theorem dL_thrown_207 : decode cL_thrown 207 = .ok (.sipush (-1002), 3) := by decide +kernel
theorem dL_thrown_210 : decode cL_thrown 210 = .ok (.if_icmp .ne 294, 3) := by decide +kernel
theorem dL_thrown_213 : decode cL_thrown 213 = .ok (.aload_n 0, 1) := by decide +kernel
theorem dL_thrown_214 : decode cL_thrown 214 = .ok (.iload_n 3, 1) := by decide +kernel
theorem dL_thrown_215 : decode cL_thrown 215 = .ok (.iconst 0, 1) := by decide +kernel
theorem dL_thrown_216 : decode cL_thrown 216 = .ok (.iconst 0, 1) := by decide +kernel
theorem dL_thrown_217 : decode cL_thrown 217 = .ok (.invokestatic 263, 3) := by decide +kernel
theorem dL_thrown_220 : decode cL_thrown 220 = .ok (.sipush (-1001), 3) := by decide +kernel
theorem dL_thrown_223 : decode cL_thrown 223 = .ok (.if_icmp .ne 281, 3) := by decide +kernel
theorem dL_thrown_226 : decode cL_thrown 226 = .ok (.aload_n 0, 1) := by decide +kernel
theorem dL_thrown_227 : decode cL_thrown 227 = .ok (.iconst 0, 1) := by decide +kernel
theorem dL_thrown_228 : decode cL_thrown 228 = .ok (.iconst (-1), 1) := by decide +kernel
theorem dL_thrown_229 : decode cL_thrown 229 = .ok (.iconst 5, 1) := by decide +kernel
theorem dL_thrown_230 : decode cL_thrown 230 = .ok (.invokestatic 263, 3) := by decide +kernel
theorem dL_thrown_233 : decode cL_thrown 233 = .ok (.sipush (-1001), 3) := by decide +kernel
theorem dL_thrown_236 : decode cL_thrown 236 = .ok (.if_icmp .ne 268, 3) := by decide +kernel
theorem dL_thrown_239 : decode cL_thrown 239 = .ok (.aload_n 0, 1) := by decide +kernel
theorem dL_thrown_240 : decode cL_thrown 240 = .ok (.iconst 0, 1) := by decide +kernel
theorem dL_thrown_241 : decode cL_thrown 241 = .ok (.iconst 0, 1) := by decide +kernel
theorem dL_thrown_242 : decode cL_thrown 242 = .ok (.iconst 5, 1) := by decide +kernel
theorem dL_thrown_243 : decode cL_thrown 243 = .ok (.invokestatic 263, 3) := by decide +kernel
theorem dL_thrown_246 : decode cL_thrown 246 = .ok (.sipush (-1002), 3) := by decide +kernel
theorem dL_thrown_249 : decode cL_thrown 249 = .ok (.if_icmp .ne 255, 3) := by decide +kernel
theorem dL_thrown_252 : decode cL_thrown 252 = .ok (.aload_n 0, 1) := by decide +kernel
theorem dL_thrown_253 : decode cL_thrown 253 = .ok (.iconst 0, 1) := by decide +kernel
theorem dL_thrown_254 : decode cL_thrown 254 = .ok (.iconst 1, 1) := by decide +kernel
theorem dL_thrown_255 : decode cL_thrown 255 = .ok (.iconst 0, 1) := by decide +kernel
theorem dL_thrown_256 : decode cL_thrown 256 = .ok (.invokestatic 263, 3) := by decide +kernel
theorem dL_thrown_259 : decode cL_thrown 259 = .ok (.sipush (-1002), 3) := by decide +kernel
theorem dL_thrown_262 : decode cL_thrown 262 = .ok (.if_icmp .ne 242, 3) := by decide +kernel
theorem dL_thrown_265 : decode cL_thrown 265 = .ok (.aload_n 0, 1) := by decide +kernel
theorem dL_thrown_266 : decode cL_thrown 266 = .ok (.iconst 0, 1) := by decide +kernel
theorem dL_thrown_267 : decode cL_thrown 267 = .ok (.iconst 1, 1) := by decide +kernel
theorem dL_thrown_268 : decode cL_thrown 268 = .ok (.bipush 21, 2) := by decide +kernel
theorem dL_thrown_270 : decode cL_thrown 270 = .ok (.invokestatic 263, 3) := by decide +kernel
theorem dL_thrown_273 : decode cL_thrown 273 = .ok (.sipush (-1002), 3) := by decide +kernel
theorem dL_thrown_276 : decode cL_thrown 276 = .ok (.if_icmp .ne 228, 3) := by decide +kernel
theorem dL_thrown_279 : decode cL_thrown 279 = .ok (.aload_n 0, 1) := by decide +kernel
theorem dL_thrown_280 : decode cL_thrown 280 = .ok (.iconst 4, 1) := by decide +kernel
theorem dL_thrown_281 : decode cL_thrown 281 = .ok (.bipush 99, 2) := by decide +kernel
theorem dL_thrown_283 : decode cL_thrown 283 = .ok (.invokestatic 178, 3) := by decide +kernel
theorem dL_thrown_286 : decode cL_thrown 286 = .ok (.sipush (-1001), 3) := by decide +kernel
theorem dL_thrown_289 : decode cL_thrown 289 = .ok (.if_icmp .ne 215, 3) := by decide +kernel
theorem dL_thrown_292 : decode cL_thrown 292 = .ok (.aload_n 0, 1) := by decide +kernel
theorem dL_thrown_293 : decode cL_thrown 293 = .ok (.iconst 0, 1) := by decide +kernel
theorem dL_thrown_294 : decode cL_thrown 294 = .ok (.bipush 11, 2) := by decide +kernel
theorem dL_thrown_296 : decode cL_thrown 296 = .ok (.invokestatic 178, 3) := by decide +kernel
theorem dL_thrown_299 : decode cL_thrown 299 = .ok (.sipush (-1002), 3) := by decide +kernel
theorem dL_thrown_302 : decode cL_thrown 302 = .ok (.if_icmp .ne 202, 3) := by decide +kernel
theorem dL_thrown_305 : decode cL_thrown 305 = .ok (.aload_n 0, 1) := by decide +kernel
theorem dL_thrown_306 : decode cL_thrown 306 = .ok (.iconst 0, 1) := by decide +kernel
theorem dL_thrown_307 : decode cL_thrown 307 = .ok (.iconst (-1), 1) := by decide +kernel
theorem dL_thrown_308 : decode cL_thrown 308 = .ok (.invokestatic 178, 3) := by decide +kernel
theorem dL_thrown_311 : decode cL_thrown 311 = .ok (.sipush (-1002), 3) := by decide +kernel
theorem dL_thrown_314 : decode cL_thrown 314 = .ok (.if_icmp .ne 190, 3) := by decide +kernel
theorem dL_thrown_317 : decode cL_thrown 317 = .ok (.aload_n 0, 1) := by decide +kernel
theorem dL_thrown_318 : decode cL_thrown 318 = .ok (.iconst 3, 1) := by decide +kernel
theorem dL_thrown_319 : decode cL_thrown 319 = .ok (.sipush 999, 3) := by decide +kernel
theorem dL_thrown_322 : decode cL_thrown 322 = .ok (.invokestatic 181, 3) := by decide +kernel
theorem dL_thrown_325 : decode cL_thrown 325 = .ok (.sipush (-1001), 3) := by decide +kernel
theorem dL_thrown_328 : decode cL_thrown 328 = .ok (.if_icmp .ne 176, 3) := by decide +kernel
theorem dL_thrown_331 : decode cL_thrown 331 = .ok (.aload_n 0, 1) := by decide +kernel
theorem dL_thrown_332 : decode cL_thrown 332 = .ok (.iconst (-1), 1) := by decide +kernel
theorem dL_thrown_333 : decode cL_thrown 333 = .ok (.iconst 0, 1) := by decide +kernel
theorem dL_thrown_334 : decode cL_thrown 334 = .ok (.invokestatic 181, 3) := by decide +kernel
theorem dL_thrown_337 : decode cL_thrown 337 = .ok (.sipush (-1001), 3) := by decide +kernel
theorem dL_thrown_340 : decode cL_thrown 340 = .ok (.if_icmp .ne 164, 3) := by decide +kernel
theorem dL_thrown_343 : decode cL_thrown 343 = .ok (.aload_n 0, 1) := by decide +kernel
theorem dL_thrown_344 : decode cL_thrown 344 = .ok (.iconst 0, 1) := by decide +kernel
theorem dL_thrown_345 : decode cL_thrown 345 = .ok (.sipush 201, 3) := by decide +kernel
theorem dL_thrown_348 : decode cL_thrown 348 = .ok (.invokestatic 181, 3) := by decide +kernel
theorem dL_thrown_351 : decode cL_thrown 351 = .ok (.sipush (-1002), 3) := by decide +kernel
theorem dL_thrown_354 : decode cL_thrown 354 = .ok (.if_icmp .ne 150, 3) := by decide +kernel
theorem dL_thrown_357 : decode cL_thrown 357 = .ok (.aload_n 0, 1) := by decide +kernel
theorem dL_thrown_358 : decode cL_thrown 358 = .ok (.iconst 0, 1) := by decide +kernel
theorem dL_thrown_359 : decode cL_thrown 359 = .ok (.iconst (-1), 1) := by decide +kernel
theorem dL_thrown_360 : decode cL_thrown 360 = .ok (.invokestatic 181, 3) := by decide +kernel
theorem dL_thrown_363 : decode cL_thrown 363 = .ok (.sipush (-1002), 3) := by decide +kernel
theorem dL_thrown_366 : decode cL_thrown 366 = .ok (.if_icmp .ne 138, 3) := by decide +kernel
theorem dL_thrown_369 : decode cL_thrown 369 = .ok (.aload_n 0, 1) := by decide +kernel
theorem dL_thrown_370 : decode cL_thrown 370 = .ok (.iconst 1, 1) := by decide +kernel
theorem dL_thrown_371 : decode cL_thrown 371 = .ok (.invokestatic 293, 3) := by decide +kernel
theorem dL_thrown_374 : decode cL_thrown 374 = .ok (.sipush 200, 3) := by decide +kernel
theorem dL_thrown_377 : decode cL_thrown 377 = .ok (.if_icmp .eq 21, 3) := by decide +kernel
theorem dL_thrown_380 : decode cL_thrown 380 = .ok (.aload_n 0, 1) := by decide +kernel
theorem dL_thrown_381 : decode cL_thrown 381 = .ok (.iconst 0, 1) := by decide +kernel
theorem dL_thrown_382 : decode cL_thrown 382 = .ok (.aload_n 0, 1) := by decide +kernel
theorem dL_thrown_383 : decode cL_thrown 383 = .ok (.iconst 1, 1) := by decide +kernel
theorem dL_thrown_384 : decode cL_thrown 384 = .ok (.invokestatic 293, 3) := by decide +kernel
theorem dL_thrown_387 : decode cL_thrown 387 = .ok (.iconst 1, 1) := by decide +kernel
theorem dL_thrown_388 : decode cL_thrown 388 = .ok (.iadd, 1) := by decide +kernel
theorem dL_thrown_389 : decode cL_thrown 389 = .ok (.invokestatic 181, 3) := by decide +kernel
theorem dL_thrown_392 : decode cL_thrown 392 = .ok (.sipush (-1003), 3) := by decide +kernel
theorem dL_thrown_395 : decode cL_thrown 395 = .ok (.if_icmp .ne 109, 3) := by decide +kernel
theorem dL_thrown_398 : decode cL_thrown 398 = .ok (.aload_n 0, 1) := by decide +kernel
theorem dL_thrown_399 : decode cL_thrown 399 = .ok (.iconst 1, 1) := by decide +kernel
theorem dL_thrown_400 : decode cL_thrown 400 = .ok (.invokestatic 293, 3) := by decide +kernel
theorem dL_thrown_403 : decode cL_thrown 403 = .ok (.ifCond .eq 21, 3) := by decide +kernel
theorem dL_thrown_406 : decode cL_thrown 406 = .ok (.aload_n 0, 1) := by decide +kernel
theorem dL_thrown_407 : decode cL_thrown 407 = .ok (.iconst 2, 1) := by decide +kernel
theorem dL_thrown_408 : decode cL_thrown 408 = .ok (.aload_n 0, 1) := by decide +kernel
theorem dL_thrown_409 : decode cL_thrown 409 = .ok (.iconst 1, 1) := by decide +kernel
theorem dL_thrown_410 : decode cL_thrown 410 = .ok (.invokestatic 293, 3) := by decide +kernel
theorem dL_thrown_413 : decode cL_thrown 413 = .ok (.iconst 1, 1) := by decide +kernel
theorem dL_thrown_414 : decode cL_thrown 414 = .ok (.isub, 1) := by decide +kernel
theorem dL_thrown_415 : decode cL_thrown 415 = .ok (.invokestatic 181, 3) := by decide +kernel
theorem dL_thrown_418 : decode cL_thrown 418 = .ok (.sipush (-1003), 3) := by decide +kernel
theorem dL_thrown_421 : decode cL_thrown 421 = .ok (.if_icmp .ne 83, 3) := by decide +kernel
theorem dL_thrown_424 : decode cL_thrown 424 = .ok (.aload_n 0, 1) := by decide +kernel
theorem dL_thrown_425 : decode cL_thrown 425 = .ok (.iconst 2, 1) := by decide +kernel
theorem dL_thrown_426 : decode cL_thrown 426 = .ok (.invokestatic 293, 3) := by decide +kernel
theorem dL_thrown_429 : decode cL_thrown 429 = .ok (.sipush 200, 3) := by decide +kernel
theorem dL_thrown_432 : decode cL_thrown 432 = .ok (.if_icmp .eq 21, 3) := by decide +kernel
theorem dL_thrown_435 : decode cL_thrown 435 = .ok (.aload_n 0, 1) := by decide +kernel
theorem dL_thrown_436 : decode cL_thrown 436 = .ok (.iconst 1, 1) := by decide +kernel
theorem dL_thrown_437 : decode cL_thrown 437 = .ok (.aload_n 0, 1) := by decide +kernel
theorem dL_thrown_438 : decode cL_thrown 438 = .ok (.iconst 2, 1) := by decide +kernel
theorem dL_thrown_439 : decode cL_thrown 439 = .ok (.invokestatic 293, 3) := by decide +kernel
theorem dL_thrown_442 : decode cL_thrown 442 = .ok (.iconst 1, 1) := by decide +kernel
theorem dL_thrown_443 : decode cL_thrown 443 = .ok (.iadd, 1) := by decide +kernel
theorem dL_thrown_444 : decode cL_thrown 444 = .ok (.invokestatic 181, 3) := by decide +kernel
theorem dL_thrown_447 : decode cL_thrown 447 = .ok (.sipush (-1003), 3) := by decide +kernel
theorem dL_thrown_450 : decode cL_thrown 450 = .ok (.if_icmp .ne 54, 3) := by decide +kernel
theorem dL_thrown_453 : decode cL_thrown 453 = .ok (.aload_n 0, 1) := by decide +kernel
theorem dL_thrown_454 : decode cL_thrown 454 = .ok (.bipush 19, 2) := by decide +kernel
theorem dL_thrown_456 : decode cL_thrown 456 = .ok (.invokestatic 184, 3) := by decide +kernel
theorem dL_thrown_459 : decode cL_thrown 459 = .ok (.sipush (-1001), 3) := by decide +kernel
theorem dL_thrown_462 : decode cL_thrown 462 = .ok (.if_icmp .ne 42, 3) := by decide +kernel
theorem dL_thrown_465 : decode cL_thrown 465 = .ok (.aload_n 0, 1) := by decide +kernel
theorem dL_thrown_466 : decode cL_thrown 466 = .ok (.bipush 61, 2) := by decide +kernel
theorem dL_thrown_468 : decode cL_thrown 468 = .ok (.invokestatic 184, 3) := by decide +kernel
theorem dL_thrown_471 : decode cL_thrown 471 = .ok (.sipush (-1001), 3) := by decide +kernel
theorem dL_thrown_474 : decode cL_thrown 474 = .ok (.if_icmp .ne 30, 3) := by decide +kernel
theorem dL_thrown_477 : decode cL_thrown 477 = .ok (.aload_n 0, 1) := by decide +kernel
theorem dL_thrown_478 : decode cL_thrown 478 = .ok (.iconst 0, 1) := by decide +kernel
theorem dL_thrown_479 : decode cL_thrown 479 = .ok (.invokestatic 186, 3) := by decide +kernel
theorem dL_thrown_482 : decode cL_thrown 482 = .ok (.sipush (-1001), 3) := by decide +kernel
theorem dL_thrown_485 : decode cL_thrown 485 = .ok (.if_icmp .ne 19, 3) := by decide +kernel
theorem dL_thrown_488 : decode cL_thrown 488 = .ok (.aload_n 0, 1) := by decide +kernel
theorem dL_thrown_489 : decode cL_thrown 489 = .ok (.bipush 61, 2) := by decide +kernel
theorem dL_thrown_491 : decode cL_thrown 491 = .ok (.invokestatic 186, 3) := by decide +kernel
theorem dL_thrown_494 : decode cL_thrown 494 = .ok (.sipush (-1001), 3) := by decide +kernel
theorem dL_thrown_497 : decode cL_thrown 497 = .ok (.if_icmp .ne 7, 3) := by decide +kernel
theorem dL_thrown_500 : decode cL_thrown 500 = .ok (.iconst 1, 1) := by decide +kernel
theorem dL_thrown_501 : decode cL_thrown 501 = .ok (.goto 4, 3) := by decide +kernel
theorem dL_thrown_504 : decode cL_thrown 504 = .ok (.iconst 0, 1) := by decide +kernel
theorem dL_thrown_505 : decode cL_thrown 505 = .ok (.istore 4, 2) := by decide +kernel
theorem dL_thrown_507 : decode cL_thrown 507 = .ok (.iconst 0, 1) := by decide +kernel
theorem dL_thrown_508 : decode cL_thrown 508 = .ok (.istore 5, 2) := by decide +kernel
theorem dL_thrown_510 : decode cL_thrown 510 = .ok (.iload 5, 2) := by decide +kernel
theorem dL_thrown_512 : decode cL_thrown 512 = .ok (.iload_n 3, 1) := by decide +kernel
theorem dL_thrown_513 : decode cL_thrown 513 = .ok (.if_icmp .ge 186, 3) := by decide +kernel
theorem dL_thrown_516 : decode cL_thrown 516 = .ok (.iload 4, 2) := by decide +kernel
theorem dL_thrown_518 : decode cL_thrown 518 = .ok (.ifCond .eq 60, 3) := by decide +kernel
theorem dL_thrown_521 : decode cL_thrown 521 = .ok (.aload_n 0, 1) := by decide +kernel
theorem dL_thrown_522 : decode cL_thrown 522 = .ok (.iload 5, 2) := by decide +kernel
theorem dL_thrown_524 : decode cL_thrown 524 = .ok (.aload_n 0, 1) := by decide +kernel
theorem dL_thrown_525 : decode cL_thrown 525 = .ok (.iload 5, 2) := by decide +kernel
theorem dL_thrown_527 : decode cL_thrown 527 = .ok (.invokestatic 296, 3) := by decide +kernel
theorem dL_thrown_530 : decode cL_thrown 530 = .ok (.aload_n 0, 1) := by decide +kernel
theorem dL_thrown_531 : decode cL_thrown 531 = .ok (.iload 5, 2) := by decide +kernel
theorem dL_thrown_533 : decode cL_thrown 533 = .ok (.invokestatic 298, 3) := by decide +kernel
theorem dL_thrown_536 : decode cL_thrown 536 = .ok (.invokestatic 259, 3) := by decide +kernel
theorem dL_thrown_539 : decode cL_thrown 539 = .ok (.sipush (-1003), 3) := by decide +kernel
theorem dL_thrown_542 : decode cL_thrown 542 = .ok (.if_icmp .ne 36, 3) := by decide +kernel
theorem dL_thrown_545 : decode cL_thrown 545 = .ok (.iload_n 3, 1) := by decide +kernel
theorem dL_thrown_546 : decode cL_thrown 546 = .ok (.bipush 12, 2) := by decide +kernel
theorem dL_thrown_548 : decode cL_thrown 548 = .ok (.if_icmp .eq 26, 3) := by decide +kernel
theorem dL_thrown_551 : decode cL_thrown 551 = .ok (.aload_n 0, 1) := by decide +kernel
theorem dL_thrown_552 : decode cL_thrown 552 = .ok (.aload_n 0, 1) := by decide +kernel
theorem dL_thrown_553 : decode cL_thrown 553 = .ok (.iload 5, 2) := by decide +kernel
theorem dL_thrown_555 : decode cL_thrown 555 = .ok (.invokestatic 296, 3) := by decide +kernel
theorem dL_thrown_558 : decode cL_thrown 558 = .ok (.aload_n 0, 1) := by decide +kernel
theorem dL_thrown_559 : decode cL_thrown 559 = .ok (.iload 5, 2) := by decide +kernel
theorem dL_thrown_561 : decode cL_thrown 561 = .ok (.invokestatic 298, 3) := by decide +kernel
theorem dL_thrown_564 : decode cL_thrown 564 = .ok (.iconst 5, 1) := by decide +kernel
theorem dL_thrown_565 : decode cL_thrown 565 = .ok (.invokestatic 175, 3) := by decide +kernel
theorem dL_thrown_568 : decode cL_thrown 568 = .ok (.sipush (-1004), 3) := by decide +kernel
theorem dL_thrown_571 : decode cL_thrown 571 = .ok (.if_icmp .ne 7, 3) := by decide +kernel
theorem dL_thrown_574 : decode cL_thrown 574 = .ok (.iconst 1, 1) := by decide +kernel
theorem dL_thrown_575 : decode cL_thrown 575 = .ok (.goto 4, 3) := by decide +kernel
theorem dL_thrown_578 : decode cL_thrown 578 = .ok (.iconst 0, 1) := by decide +kernel
theorem dL_thrown_579 : decode cL_thrown 579 = .ok (.istore 4, 2) := by decide +kernel
theorem dL_thrown_581 : decode cL_thrown 581 = .ok (.iconst 0, 1) := by decide +kernel
theorem dL_thrown_582 : decode cL_thrown 582 = .ok (.istore 6, 2) := by decide +kernel
theorem dL_thrown_584 : decode cL_thrown 584 = .ok (.iload 6, 2) := by decide +kernel
theorem dL_thrown_586 : decode cL_thrown 586 = .ok (.iload_n 3, 1) := by decide +kernel
theorem dL_thrown_587 : decode cL_thrown 587 = .ok (.if_icmp .ge 106, 3) := by decide +kernel
theorem dL_thrown_590 : decode cL_thrown 590 = .ok (.iload 6, 2) := by decide +kernel
theorem dL_thrown_592 : decode cL_thrown 592 = .ok (.iload 5, 2) := by decide +kernel
theorem dL_thrown_594 : decode cL_thrown 594 = .ok (.if_icmp .eq 48, 3) := by decide +kernel
theorem dL_thrown_597 : decode cL_thrown 597 = .ok (.aload_n 0, 1) := by decide +kernel
theorem dL_thrown_598 : decode cL_thrown 598 = .ok (.iload 5, 2) := by decide +kernel
theorem dL_thrown_600 : decode cL_thrown 600 = .ok (.invokestatic 300, 3) := by decide +kernel
theorem dL_thrown_603 : decode cL_thrown 603 = .ok (.bipush 20, 2) := by decide +kernel
theorem dL_thrown_605 : decode cL_thrown 605 = .ok (.if_icmp .ge 37, 3) := by decide +kernel
theorem dL_thrown_608 : decode cL_thrown 608 = .ok (.iload 4, 2) := by decide +kernel
theorem dL_thrown_610 : decode cL_thrown 610 = .ok (.ifCond .eq 29, 3) := by decide +kernel
theorem dL_thrown_613 : decode cL_thrown 613 = .ok (.aload_n 0, 1) := by decide +kernel
theorem dL_thrown_614 : decode cL_thrown 614 = .ok (.iload 5, 2) := by decide +kernel
theorem dL_thrown_616 : decode cL_thrown 616 = .ok (.iload 6, 2) := by decide +kernel
theorem dL_thrown_618 : decode cL_thrown 618 = .ok (.aload_n 0, 1) := by decide +kernel
theorem dL_thrown_619 : decode cL_thrown 619 = .ok (.iload 5, 2) := by decide +kernel
theorem dL_thrown_621 : decode cL_thrown 621 = .ok (.invokestatic 300, 3) := by decide +kernel
theorem dL_thrown_624 : decode cL_thrown 624 = .ok (.iconst 1, 1) := by decide +kernel
theorem dL_thrown_625 : decode cL_thrown 625 = .ok (.iadd, 1) := by decide +kernel
theorem dL_thrown_626 : decode cL_thrown 626 = .ok (.invokestatic 263, 3) := by decide +kernel
theorem dL_thrown_629 : decode cL_thrown 629 = .ok (.sipush (-1003), 3) := by decide +kernel
theorem dL_thrown_632 : decode cL_thrown 632 = .ok (.if_icmp .ne 7, 3) := by decide +kernel
theorem dL_thrown_635 : decode cL_thrown 635 = .ok (.iconst 1, 1) := by decide +kernel
theorem dL_thrown_636 : decode cL_thrown 636 = .ok (.goto 4, 3) := by decide +kernel
theorem dL_thrown_639 : decode cL_thrown 639 = .ok (.iconst 0, 1) := by decide +kernel
theorem dL_thrown_640 : decode cL_thrown 640 = .ok (.istore 4, 2) := by decide +kernel
theorem dL_thrown_642 : decode cL_thrown 642 = .ok (.iload 6, 2) := by decide +kernel
theorem dL_thrown_644 : decode cL_thrown 644 = .ok (.iload 5, 2) := by decide +kernel
theorem dL_thrown_646 : decode cL_thrown 646 = .ok (.if_icmp .eq 41, 3) := by decide +kernel
theorem dL_thrown_649 : decode cL_thrown 649 = .ok (.aload_n 0, 1) := by decide +kernel
theorem dL_thrown_650 : decode cL_thrown 650 = .ok (.iload 6, 2) := by decide +kernel
theorem dL_thrown_652 : decode cL_thrown 652 = .ok (.invokestatic 300, 3) := by decide +kernel
theorem dL_thrown_655 : decode cL_thrown 655 = .ok (.bipush 20, 2) := by decide +kernel
theorem dL_thrown_657 : decode cL_thrown 657 = .ok (.if_icmp .ne 30, 3) := by decide +kernel
theorem dL_thrown_660 : decode cL_thrown 660 = .ok (.iload 4, 2) := by decide +kernel
theorem dL_thrown_662 : decode cL_thrown 662 = .ok (.ifCond .eq 22, 3) := by decide +kernel
theorem dL_thrown_665 : decode cL_thrown 665 = .ok (.aload_n 0, 1) := by decide +kernel
theorem dL_thrown_666 : decode cL_thrown 666 = .ok (.iload 5, 2) := by decide +kernel
theorem dL_thrown_668 : decode cL_thrown 668 = .ok (.iload 6, 2) := by decide +kernel
theorem dL_thrown_670 : decode cL_thrown 670 = .ok (.iconst 1, 1) := by decide +kernel
theorem dL_thrown_671 : decode cL_thrown 671 = .ok (.invokestatic 263, 3) := by decide +kernel
theorem dL_thrown_674 : decode cL_thrown 674 = .ok (.sipush (-1003), 3) := by decide +kernel
theorem dL_thrown_677 : decode cL_thrown 677 = .ok (.if_icmp .ne 7, 3) := by decide +kernel
theorem dL_thrown_680 : decode cL_thrown 680 = .ok (.iconst 1, 1) := by decide +kernel
theorem dL_thrown_681 : decode cL_thrown 681 = .ok (.goto 4, 3) := by decide +kernel
theorem dL_thrown_684 : decode cL_thrown 684 = .ok (.iconst 0, 1) := by decide +kernel
theorem dL_thrown_685 : decode cL_thrown 685 = .ok (.istore 4, 2) := by decide +kernel
theorem dL_thrown_687 : decode cL_thrown 687 = .ok (.iinc 6 1, 3) := by decide +kernel
theorem dL_thrown_690 : decode cL_thrown 690 = .ok (.goto (-106), 3) := by decide +kernel
theorem dL_thrown_693 : decode cL_thrown 693 = .ok (.iinc 5 1, 3) := by decide +kernel
theorem dL_thrown_696 : decode cL_thrown 696 = .ok (.goto (-186), 3) := by decide +kernel
theorem dL_thrown_699 : decode cL_thrown 699 = .ok (.iload 4, 2) := by decide +kernel
theorem dL_thrown_701 : decode cL_thrown 701 = .ok (.ifCond .eq 299, 3) := by decide +kernel
theorem dL_thrown_704 : decode cL_thrown 704 = .ok (.aload_n 0, 1) := by decide +kernel
theorem dL_thrown_705 : decode cL_thrown 705 = .ok (.iload_n 3, 1) := by decide +kernel
theorem dL_thrown_706 : decode cL_thrown 706 = .ok (.invokestatic 296, 3) := by decide +kernel
theorem dL_thrown_709 : decode cL_thrown 709 = .ok (.sipush (-1001), 3) := by decide +kernel
theorem dL_thrown_712 : decode cL_thrown 712 = .ok (.if_icmp .ne 288, 3) := by decide +kernel
theorem dL_thrown_715 : decode cL_thrown 715 = .ok (.aload_n 0, 1) := by decide +kernel
theorem dL_thrown_716 : decode cL_thrown 716 = .ok (.iconst (-1), 1) := by decide +kernel
theorem dL_thrown_717 : decode cL_thrown 717 = .ok (.invokestatic 298, 3) := by decide +kernel
theorem dL_thrown_720 : decode cL_thrown 720 = .ok (.sipush (-1001), 3) := by decide +kernel
theorem dL_thrown_723 : decode cL_thrown 723 = .ok (.if_icmp .ne 277, 3) := by decide +kernel
theorem dL_thrown_726 : decode cL_thrown 726 = .ok (.aload_n 0, 1) := by decide +kernel
theorem dL_thrown_727 : decode cL_thrown 727 = .ok (.iload_n 3, 1) := by decide +kernel
theorem dL_thrown_728 : decode cL_thrown 728 = .ok (.invokestatic 300, 3) := by decide +kernel
theorem dL_thrown_731 : decode cL_thrown 731 = .ok (.sipush (-1001), 3) := by decide +kernel
theorem dL_thrown_734 : decode cL_thrown 734 = .ok (.if_icmp .ne 266, 3) := by decide +kernel
theorem dL_thrown_737 : decode cL_thrown 737 = .ok (.aload_n 0, 1) := by decide +kernel
theorem dL_thrown_738 : decode cL_thrown 738 = .ok (.iconst 4, 1) := by decide +kernel
theorem dL_thrown_739 : decode cL_thrown 739 = .ok (.iconst 0, 1) := by decide +kernel
theorem dL_thrown_740 : decode cL_thrown 740 = .ok (.invokestatic 302, 3) := by decide +kernel
theorem dL_thrown_743 : decode cL_thrown 743 = .ok (.sipush (-1001), 3) := by decide +kernel
theorem dL_thrown_746 : decode cL_thrown 746 = .ok (.if_icmp .ne 254, 3) := by decide +kernel
theorem dL_thrown_749 : decode cL_thrown 749 = .ok (.aload_n 0, 1) := by decide +kernel
theorem dL_thrown_750 : decode cL_thrown 750 = .ok (.iconst 0, 1) := by decide +kernel
theorem dL_thrown_751 : decode cL_thrown 751 = .ok (.iconst (-1), 1) := by decide +kernel
theorem dL_thrown_752 : decode cL_thrown 752 = .ok (.invokestatic 302, 3) := by decide +kernel
theorem dL_thrown_755 : decode cL_thrown 755 = .ok (.sipush (-1002), 3) := by decide +kernel
theorem dL_thrown_758 : decode cL_thrown 758 = .ok (.if_icmp .ne 242, 3) := by decide +kernel
theorem dL_thrown_761 : decode cL_thrown 761 = .ok (.aload_n 0, 1) := by decide +kernel
theorem dL_thrown_762 : decode cL_thrown 762 = .ok (.iconst (-1), 1) := by decide +kernel
theorem dL_thrown_763 : decode cL_thrown 763 = .ok (.invokestatic 304, 3) := by decide +kernel
theorem dL_thrown_766 : decode cL_thrown 766 = .ok (.sipush (-1001), 3) := by decide +kernel
theorem dL_thrown_769 : decode cL_thrown 769 = .ok (.if_icmp .ne 231, 3) := by decide +kernel
theorem dL_thrown_772 : decode cL_thrown 772 = .ok (.aload_n 0, 1) := by decide +kernel
theorem dL_thrown_773 : decode cL_thrown 773 = .ok (.iconst 4, 1) := by decide +kernel
theorem dL_thrown_774 : decode cL_thrown 774 = .ok (.invokestatic 306, 3) := by decide +kernel
theorem dL_thrown_777 : decode cL_thrown 777 = .ok (.sipush (-1001), 3) := by decide +kernel
theorem dL_thrown_780 : decode cL_thrown 780 = .ok (.if_icmp .ne 220, 3) := by decide +kernel
theorem dL_thrown_783 : decode cL_thrown 783 = .ok (.aload_n 0, 1) := by decide +kernel
theorem dL_thrown_784 : decode cL_thrown 784 = .ok (.iconst 3, 1) := by decide +kernel
theorem dL_thrown_785 : decode cL_thrown 785 = .ok (.invokestatic 293, 3) := by decide +kernel
theorem dL_thrown_788 : decode cL_thrown 788 = .ok (.sipush (-1001), 3) := by decide +kernel
theorem dL_thrown_791 : decode cL_thrown 791 = .ok (.if_icmp .ne 209, 3) := by decide +kernel
theorem dL_thrown_794 : decode cL_thrown 794 = .ok (.aload_n 0, 1) := by decide +kernel
theorem dL_thrown_795 : decode cL_thrown 795 = .ok (.bipush 11, 2) := by decide +kernel
theorem dL_thrown_797 : decode cL_thrown 797 = .ok (.invokestatic 247, 3) := by decide +kernel
theorem dL_thrown_800 : decode cL_thrown 800 = .ok (.ldc 74, 2) := by decide +kernel
theorem dL_thrown_802 : decode cL_thrown 802 = .ok (.fcmp .l, 1) := by decide +kernel
theorem dL_thrown_803 : decode cL_thrown 803 = .ok (.ifCond .ne 197, 3) := by decide +kernel
theorem dL_thrown_806 : decode cL_thrown 806 = .ok (.aload_n 0, 1) := by decide +kernel
theorem dL_thrown_807 : decode cL_thrown 807 = .ok (.iconst (-1), 1) := by decide +kernel
theorem dL_thrown_808 : decode cL_thrown 808 = .ok (.invokestatic 247, 3) := by decide +kernel
theorem dL_thrown_811 : decode cL_thrown 811 = .ok (.ldc 74, 2) := by decide +kernel
theorem dL_thrown_813 : decode cL_thrown 813 = .ok (.fcmp .l, 1) := by decide +kernel
theorem dL_thrown_814 : decode cL_thrown 814 = .ok (.ifCond .ne 186, 3) := by decide +kernel
theorem dL_thrown_817 : decode cL_thrown 817 = .ok (.aload_n 0, 1) := by decide +kernel
theorem dL_thrown_818 : decode cL_thrown 818 = .ok (.iconst 4, 1) := by decide +kernel
theorem dL_thrown_819 : decode cL_thrown 819 = .ok (.invokestatic 239, 3) := by decide +kernel
theorem dL_thrown_822 : decode cL_thrown 822 = .ok (.ldc 74, 2) := by decide +kernel
theorem dL_thrown_824 : decode cL_thrown 824 = .ok (.fcmp .l, 1) := by decide +kernel
theorem dL_thrown_825 : decode cL_thrown 825 = .ok (.ifCond .ne 175, 3) := by decide +kernel
theorem dL_thrown_828 : decode cL_thrown 828 = .ok (.aload_n 0, 1) := by decide +kernel
theorem dL_thrown_829 : decode cL_thrown 829 = .ok (.iconst (-1), 1) := by decide +kernel
theorem dL_thrown_830 : decode cL_thrown 830 = .ok (.invokestatic 243, 3) := by decide +kernel
theorem dL_thrown_833 : decode cL_thrown 833 = .ok (.ldc 74, 2) := by decide +kernel
theorem dL_thrown_835 : decode cL_thrown 835 = .ok (.fcmp .l, 1) := by decide +kernel
theorem dL_thrown_836 : decode cL_thrown 836 = .ok (.ifCond .ne 164, 3) := by decide +kernel
theorem dL_thrown_839 : decode cL_thrown 839 = .ok (.aload_n 0, 1) := by decide +kernel
theorem dL_thrown_840 : decode cL_thrown 840 = .ok (.iload_n 3, 1) := by decide +kernel
theorem dL_thrown_841 : decode cL_thrown 841 = .ok (.invokestatic 253, 3) := by decide +kernel
theorem dL_thrown_844 : decode cL_thrown 844 = .ok (.ldc 74, 2) := by decide +kernel
theorem dL_thrown_846 : decode cL_thrown 846 = .ok (.fcmp .l, 1) := by decide +kernel
theorem dL_thrown_847 : decode cL_thrown 847 = .ok (.ifCond .ne 153, 3) := by decide +kernel
theorem dL_thrown_850 : decode cL_thrown 850 = .ok (.aload_n 0, 1) := by decide +kernel
theorem dL_thrown_851 : decode cL_thrown 851 = .ok (.iload_n 3, 1) := by decide +kernel
theorem dL_thrown_852 : decode cL_thrown 852 = .ok (.invokestatic 309, 3) := by decide +kernel
theorem dL_thrown_855 : decode cL_thrown 855 = .ok (.sipush (-1001), 3) := by decide +kernel
theorem dL_thrown_858 : decode cL_thrown 858 = .ok (.if_icmp .ne 142, 3) := by decide +kernel
theorem dL_thrown_861 : decode cL_thrown 861 = .ok (.aload_n 0, 1) := by decide +kernel
theorem dL_thrown_862 : decode cL_thrown 862 = .ok (.iconst 4, 1) := by decide +kernel
theorem dL_thrown_863 : decode cL_thrown 863 = .ok (.invokestatic 230, 3) := by decide +kernel
theorem dL_thrown_866 : decode cL_thrown 866 = .ok (.sipush (-1001), 3) := by decide +kernel
theorem dL_thrown_869 : decode cL_thrown 869 = .ok (.if_icmp .ne 131, 3) := by decide +kernel
theorem dL_thrown_872 : decode cL_thrown 872 = .ok (.aload_n 0, 1) := by decide +kernel
theorem dL_thrown_873 : decode cL_thrown 873 = .ok (.iconst (-1), 1) := by decide +kernel
theorem dL_thrown_874 : decode cL_thrown 874 = .ok (.invokestatic 311, 3) := by decide +kernel
theorem dL_thrown_877 : decode cL_thrown 877 = .ok (.sipush (-1001), 3) := by decide +kernel
theorem dL_thrown_880 : decode cL_thrown 880 = .ok (.if_icmp .ne 120, 3) := by decide +kernel
theorem dL_thrown_883 : decode cL_thrown 883 = .ok (.aload_n 0, 1) := by decide +kernel
theorem dL_thrown_884 : decode cL_thrown 884 = .ok (.iload_n 3, 1) := by decide +kernel
theorem dL_thrown_885 : decode cL_thrown 885 = .ok (.invokestatic 314, 3) := by decide +kernel
theorem dL_thrown_888 : decode cL_thrown 888 = .ok (.sipush (-1001), 3) := by decide +kernel
theorem dL_thrown_891 : decode cL_thrown 891 = .ok (.if_icmp .ne 109, 3) := by decide +kernel
theorem dL_thrown_894 : decode cL_thrown 894 = .ok (.aload_n 0, 1) := by decide +kernel
theorem dL_thrown_895 : decode cL_thrown 895 = .ok (.iload_n 3, 1) := by decide +kernel
theorem dL_thrown_896 : decode cL_thrown 896 = .ok (.invokestatic 250, 3) := by decide +kernel
theorem dL_thrown_899 : decode cL_thrown 899 = .ok (.sipush (-1001), 3) := by decide +kernel
theorem dL_thrown_902 : decode cL_thrown 902 = .ok (.if_icmp .ne 98, 3) := by decide +kernel
theorem dL_thrown_905 : decode cL_thrown 905 = .ok (.aload_n 0, 1) := by decide +kernel
theorem dL_thrown_906 : decode cL_thrown 906 = .ok (.iconst 4, 1) := by decide +kernel
theorem dL_thrown_907 : decode cL_thrown 907 = .ok (.invokestatic 236, 3) := by decide +kernel
theorem dL_thrown_910 : decode cL_thrown 910 = .ok (.sipush (-1001), 3) := by decide +kernel
theorem dL_thrown_913 : decode cL_thrown 913 = .ok (.if_icmp .ne 87, 3) := by decide +kernel
theorem dL_thrown_916 : decode cL_thrown 916 = .ok (.aload_n 0, 1) := by decide +kernel
theorem dL_thrown_917 : decode cL_thrown 917 = .ok (.iconst (-1), 1) := by decide +kernel
theorem dL_thrown_918 : decode cL_thrown 918 = .ok (.invokestatic 236, 3) := by decide +kernel
theorem dL_thrown_921 : decode cL_thrown 921 = .ok (.sipush (-1001), 3) := by decide +kernel
theorem dL_thrown_924 : decode cL_thrown 924 = .ok (.if_icmp .ne 76, 3) := by decide +kernel
theorem dL_thrown_927 : decode cL_thrown 927 = .ok (.aload_n 0, 1) := by decide +kernel
theorem dL_thrown_928 : decode cL_thrown 928 = .ok (.iconst 4, 1) := by decide +kernel
theorem dL_thrown_929 : decode cL_thrown 929 = .ok (.invokestatic 233, 3) := by decide +kernel
theorem dL_thrown_932 : decode cL_thrown 932 = .ok (.sipush (-1001), 3) := by decide +kernel
theorem dL_thrown_935 : decode cL_thrown 935 = .ok (.if_icmp .ne 65, 3) := by decide +kernel
theorem dL_thrown_938 : decode cL_thrown 938 = .ok (.aload_n 0, 1) := by decide +kernel
theorem dL_thrown_939 : decode cL_thrown 939 = .ok (.iload_n 3, 1) := by decide +kernel
theorem dL_thrown_940 : decode cL_thrown 940 = .ok (.invokestatic 255, 3) := by decide +kernel
theorem dL_thrown_943 : decode cL_thrown 943 = .ok (.sipush (-1001), 3) := by decide +kernel
theorem dL_thrown_946 : decode cL_thrown 946 = .ok (.if_icmp .ne 54, 3) := by decide +kernel
theorem dL_thrown_949 : decode cL_thrown 949 = .ok (.aload_n 0, 1) := by decide +kernel
theorem dL_thrown_950 : decode cL_thrown 950 = .ok (.iconst 4, 1) := by decide +kernel
theorem dL_thrown_951 : decode cL_thrown 951 = .ok (.invokestatic 245, 3) := by decide +kernel
theorem dL_thrown_954 : decode cL_thrown 954 = .ok (.sipush (-1001), 3) := by decide +kernel
theorem dL_thrown_957 : decode cL_thrown 957 = .ok (.if_icmp .ne 43, 3) := by decide +kernel
theorem dL_thrown_960 : decode cL_thrown 960 = .ok (.aload_n 0, 1) := by decide +kernel
theorem dL_thrown_961 : decode cL_thrown 961 = .ok (.iconst (-1), 1) := by decide +kernel
theorem dL_thrown_962 : decode cL_thrown 962 = .ok (.invokestatic 165, 3) := by decide +kernel
theorem dL_thrown_965 : decode cL_thrown 965 = .ok (.sipush (-1001), 3) := by decide +kernel
theorem dL_thrown_968 : decode cL_thrown 968 = .ok (.if_icmp .ne 32, 3) := by decide +kernel
theorem dL_thrown_971 : decode cL_thrown 971 = .ok (.aload_n 0, 1) := by decide +kernel
theorem dL_thrown_972 : decode cL_thrown 972 = .ok (.bipush 40, 2) := by decide +kernel
theorem dL_thrown_974 : decode cL_thrown 974 = .ok (.invokestatic 165, 3) := by decide +kernel
theorem dL_thrown_977 : decode cL_thrown 977 = .ok (.sipush (-1001), 3) := by decide +kernel
theorem dL_thrown_980 : decode cL_thrown 980 = .ok (.if_icmp .ne 20, 3) := by decide +kernel
theorem dL_thrown_983 : decode cL_thrown 983 = .ok (.aload_n 0, 1) := by decide +kernel
theorem dL_thrown_984 : decode cL_thrown 984 = .ok (.sipush 200, 3) := by decide +kernel
theorem dL_thrown_987 : decode cL_thrown 987 = .ok (.invokestatic 156, 3) := by decide +kernel
theorem dL_thrown_990 : decode cL_thrown 990 = .ok (.sipush (-1001), 3) := by decide +kernel
theorem dL_thrown_993 : decode cL_thrown 993 = .ok (.if_icmp .ne 7, 3) := by decide +kernel
theorem dL_thrown_996 : decode cL_thrown 996 = .ok (.iconst 1, 1) := by decide +kernel
theorem dL_thrown_997 : decode cL_thrown 997 = .ok (.goto 4, 3) := by decide +kernel
theorem dL_thrown_1000 : decode cL_thrown 1000 = .ok (.iconst 0, 1) := by decide +kernel
theorem dL_thrown_1001 : decode cL_thrown 1001 = .ok (.istore 4, 2) := by decide +kernel
theorem dL_thrown_1003 : decode cL_thrown 1003 = .ok (.iload 4, 2) := by decide +kernel
theorem dL_thrown_1005 : decode cL_thrown 1005 = .ok (.ifCond .eq 84, 3) := by decide +kernel
theorem dL_thrown_1008 : decode cL_thrown 1008 = .ok (.aload_n 0, 1) := by decide +kernel
theorem dL_thrown_1009 : decode cL_thrown 1009 = .ok (.ldc_w 317, 3) := by decide +kernel
theorem dL_thrown_1012 : decode cL_thrown 1012 = .ok (.invokestatic 285, 3) := by decide +kernel
theorem dL_thrown_1015 : decode cL_thrown 1015 = .ok (.sipush (-1001), 3) := by decide +kernel
theorem dL_thrown_1018 : decode cL_thrown 1018 = .ok (.if_icmp .ne 71, 3) := by decide +kernel
theorem dL_thrown_1021 : decode cL_thrown 1021 = .ok (.aload_n 0, 1) := by decide +kernel
theorem dL_thrown_1022 : decode cL_thrown 1022 = .ok (.invokestatic 319, 3) := by decide +kernel
theorem dL_thrown_1025 : decode cL_thrown 1025 = .ok (.ifCond .ne 64, 3) := by decide +kernel
theorem dL_thrown_1028 : decode cL_thrown 1028 = .ok (.aload_n 0, 1) := by decide +kernel
theorem dL_thrown_1029 : decode cL_thrown 1029 = .ok (.ldc_w 321, 3) := by decide +kernel
theorem dL_thrown_1032 : decode cL_thrown 1032 = .ok (.invokestatic 285, 3) := by decide +kernel
theorem dL_thrown_1035 : decode cL_thrown 1035 = .ok (.sipush (-1002), 3) := by decide +kernel
theorem dL_thrown_1038 : decode cL_thrown 1038 = .ok (.if_icmp .ne 51, 3) := by decide +kernel
theorem dL_thrown_1041 : decode cL_thrown 1041 = .ok (.aload_n 0, 1) := by decide +kernel
theorem dL_thrown_1042 : decode cL_thrown 1042 = .ok (.invokestatic 323, 3) := by decide +kernel
theorem dL_thrown_1045 : decode cL_thrown 1045 = .ok (.iconst 2, 1) := by decide +kernel
theorem dL_thrown_1046 : decode cL_thrown 1046 = .ok (.if_icmp .ne 43, 3) := by decide +kernel
theorem dL_thrown_1049 : decode cL_thrown 1049 = .ok (.aload_n 0, 1) := by decide +kernel
theorem dL_thrown_1050 : decode cL_thrown 1050 = .ok (.ldc_w 325, 3) := by decide +kernel
theorem dL_thrown_1053 : decode cL_thrown 1053 = .ok (.invokestatic 285, 3) := by decide +kernel
theorem dL_thrown_1056 : decode cL_thrown 1056 = .ok (.sipush (-1002), 3) := by decide +kernel
theorem dL_thrown_1059 : decode cL_thrown 1059 = .ok (.if_icmp .ne 30, 3) := by decide +kernel
theorem dL_thrown_1062 : decode cL_thrown 1062 = .ok (.aload_n 0, 1) := by decide +kernel
theorem dL_thrown_1063 : decode cL_thrown 1063 = .ok (.invokestatic 323, 3) := by decide +kernel
theorem dL_thrown_1066 : decode cL_thrown 1066 = .ok (.ifCond .ne 23, 3) := by decide +kernel
theorem dL_thrown_1069 : decode cL_thrown 1069 = .ok (.aload_n 0, 1) := by decide +kernel
theorem dL_thrown_1070 : decode cL_thrown 1070 = .ok (.invokestatic 319, 3) := by decide +kernel
theorem dL_thrown_1073 : decode cL_thrown 1073 = .ok (.ifCond .ne 16, 3) := by decide +kernel
theorem dL_thrown_1076 : decode cL_thrown 1076 = .ok (.aload_n 0, 1) := by decide +kernel
theorem dL_thrown_1077 : decode cL_thrown 1077 = .ok (.invokestatic 289, 3) := by decide +kernel
theorem dL_thrown_1080 : decode cL_thrown 1080 = .ok (.lload_n 1, 1) := by decide +kernel
theorem dL_thrown_1081 : decode cL_thrown 1081 = .ok (.lcmp, 1) := by decide +kernel
theorem dL_thrown_1082 : decode cL_thrown 1082 = .ok (.ifCond .ne 7, 3) := by decide +kernel
theorem dL_thrown_1085 : decode cL_thrown 1085 = .ok (.iconst 1, 1) := by decide +kernel
theorem dL_thrown_1086 : decode cL_thrown 1086 = .ok (.goto 4, 3) := by decide +kernel
theorem dL_thrown_1089 : decode cL_thrown 1089 = .ok (.iconst 0, 1) := by decide +kernel
theorem dL_thrown_1090 : decode cL_thrown 1090 = .ok (.ireturn, 1) := by decide +kernel
theorem dL_law_0 : decode cL_law 0 = .ok (.new 8, 3) := by decide +kernel
theorem dL_law_3 : decode cL_law 3 = .ok (.dup, 1) := by decide +kernel
theorem dL_law_4 : decode cL_law 4 = .ok (.invokespecial 327, 3) := by decide +kernel
theorem dL_law_7 : decode cL_law 7 = .ok (.astore_n 1, 1) := by decide +kernel
theorem dL_law_8 : decode cL_law 8 = .ok (.aload_n 1, 1) := by decide +kernel
theorem dL_law_9 : decode cL_law 9 = .ok (.invokestatic 328, 3) := by decide +kernel
theorem dL_law_12 : decode cL_law 12 = .ok (.sipush (-1001), 3) := by decide +kernel
theorem dL_law_15 : decode cL_law 15 = .ok (.if_icmp .ne 48, 3) := by decide +kernel
theorem dL_law_18 : decode cL_law 18 = .ok (.aload_n 1, 1) := by decide +kernel
theorem dL_law_19 : decode cL_law 19 = .ok (.invokestatic 330, 3) := by decide +kernel
theorem dL_law_22 : decode cL_law 22 = .ok (.sipush (-1001), 3) := by decide +kernel
theorem dL_law_25 : decode cL_law 25 = .ok (.if_icmp .ne 38, 3) := by decide +kernel
theorem dL_law_28 : decode cL_law 28 = .ok (.aload_n 1, 1) := by decide +kernel
theorem dL_law_29 : decode cL_law 29 = .ok (.invokevirtual 332, 3) := by decide +kernel
theorem dL_law_32 : decode cL_law 32 = .ok (.ifCond .ne 31, 3) := by decide +kernel
theorem dL_law_35 : decode cL_law 35 = .ok (.aload_n 1, 1) := by decide +kernel
theorem dL_law_36 : decode cL_law 36 = .ok (.bipush 60, 2) := by decide +kernel
theorem dL_law_38 : decode cL_law 38 = .ok (.invokestatic 186, 3) := by decide +kernel
theorem dL_law_41 : decode cL_law 41 = .ok (.ifCond .ne 22, 3) := by decide +kernel
theorem dL_law_44 : decode cL_law 44 = .ok (.aload_n 1, 1) := by decide +kernel
theorem dL_law_45 : decode cL_law 45 = .ok (.invokevirtual 215, 3) := by decide +kernel
theorem dL_law_48 : decode cL_law 48 = .ok (.bipush 60, 2) := by decide +kernel
theorem dL_law_50 : decode cL_law 50 = .ok (.if_icmp .ne 13, 3) := by decide +kernel
theorem dL_law_53 : decode cL_law 53 = .ok (.aload_n 1, 1) := by decide +kernel
theorem dL_law_54 : decode cL_law 54 = .ok (.invokevirtual 224, 3) := by decide +kernel
theorem dL_law_57 : decode cL_law 57 = .ok (.sipush 30000, 3) := by decide +kernel
theorem dL_law_60 : decode cL_law 60 = .ok (.if_icmp .eq 5, 3) := by decide +kernel
theorem dL_law_63 : decode cL_law 63 = .ok (.iconst 0, 1) := by decide +kernel
theorem dL_law_64 : decode cL_law 64 = .ok (.ireturn, 1) := by decide +kernel
theorem dL_law_65 : decode cL_law 65 = .ok (.iconst 0, 1) := by decide +kernel
theorem dL_law_66 : decode cL_law 66 = .ok (.istore_n 2, 1) := by decide +kernel
theorem dL_law_67 : decode cL_law 67 = .ok (.iload_n 2, 1) := by decide +kernel
theorem dL_law_68 : decode cL_law 68 = .ok (.bipush 60, 2) := by decide +kernel
theorem dL_law_70 : decode cL_law 70 = .ok (.if_icmp .ge 26, 3) := by decide +kernel
theorem dL_law_73 : decode cL_law 73 = .ok (.aload_n 1, 1) := by decide +kernel
theorem dL_law_74 : decode cL_law 74 = .ok (.bipush 65, 2) := by decide +kernel
theorem dL_law_76 : decode cL_law 76 = .ok (.iload_n 2, 1) := by decide +kernel
theorem dL_law_77 : decode cL_law 77 = .ok (.iadd, 1) := by decide +kernel
theorem dL_law_78 : decode cL_law 78 = .ok (.i2c, 1) := by decide +kernel
theorem dL_law_79 : decode cL_law 79 = .ok (.invokestatic 156, 3) := by decide +kernel
theorem dL_law_82 : decode cL_law 82 = .ok (.iload_n 2, 1) := by decide +kernel
theorem dL_law_83 : decode cL_law 83 = .ok (.iconst 1, 1) := by decide +kernel
theorem dL_law_84 : decode cL_law 84 = .ok (.iadd, 1) := by decide +kernel
theorem dL_law_85 : decode cL_law 85 = .ok (.if_icmp .eq 5, 3) := by decide +kernel
theorem dL_law_88 : decode cL_law 88 = .ok (.iconst 0, 1) := by decide +kernel
theorem dL_law_89 : decode cL_law 89 = .ok (.ireturn, 1) := by decide +kernel
theorem dL_law_90 : decode cL_law 90 = .ok (.iinc 2 1, 3) := by decide +kernel
theorem dL_law_93 : decode cL_law 93 = .ok (.goto (-26), 3) := by decide +kernel
theorem dL_law_96 : decode cL_law 96 = .ok (.aload_n 1, 1) := by decide +kernel
theorem dL_law_97 : decode cL_law 97 = .ok (.bipush 119, 2) := by decide +kernel
theorem dL_law_99 : decode cL_law 99 = .ok (.invokestatic 156, 3) := by decide +kernel
theorem dL_law_102 : decode cL_law 102 = .ok (.sipush (-1002), 3) := by decide +kernel
theorem dL_law_105 : decode cL_law 105 = .ok (.if_icmp .ne 48, 3) := by decide +kernel
theorem dL_law_108 : decode cL_law 108 = .ok (.aload_n 1, 1) := by decide +kernel
theorem dL_law_109 : decode cL_law 109 = .ok (.invokestatic 161, 3) := by decide +kernel
theorem dL_law_112 : decode cL_law 112 = .ok (.sipush (-1001), 3) := by decide +kernel
theorem dL_law_115 : decode cL_law 115 = .ok (.if_icmp .ne 38, 3) := by decide +kernel
theorem dL_law_118 : decode cL_law 118 = .ok (.aload_n 1, 1) := by decide +kernel
theorem dL_law_119 : decode cL_law 119 = .ok (.invokestatic 319, 3) := by decide +kernel
theorem dL_law_122 : decode cL_law 122 = .ok (.ifCond .ne 31, 3) := by decide +kernel
theorem dL_law_125 : decode cL_law 125 = .ok (.aload_n 1, 1) := by decide +kernel
theorem dL_law_126 : decode cL_law 126 = .ok (.bipush 119, 2) := by decide +kernel
theorem dL_law_128 : decode cL_law 128 = .ok (.invokestatic 156, 3) := by decide +kernel
theorem dL_law_131 : decode cL_law 131 = .ok (.iconst 1, 1) := by decide +kernel
theorem dL_law_132 : decode cL_law 132 = .ok (.if_icmp .ne 21, 3) := by decide +kernel
theorem dL_law_135 : decode cL_law 135 = .ok (.aload_n 1, 1) := by decide +kernel
theorem dL_law_136 : decode cL_law 136 = .ok (.invokestatic 161, 3) := by decide +kernel
theorem dL_law_139 : decode cL_law 139 = .ok (.sipush (-1001), 3) := by decide +kernel
theorem dL_law_142 : decode cL_law 142 = .ok (.if_icmp .ne 11, 3) := by decide +kernel
theorem dL_law_145 : decode cL_law 145 = .ok (.aload_n 1, 1) := by decide +kernel
theorem dL_law_146 : decode cL_law 146 = .ok (.invokestatic 319, 3) := by decide +kernel
theorem dL_law_149 : decode cL_law 149 = .ok (.iconst 1, 1) := by decide +kernel
theorem dL_law_150 : decode cL_law 150 = .ok (.if_icmp .eq 5, 3) := by decide +kernel
theorem dL_law_153 : decode cL_law 153 = .ok (.iconst 0, 1) := by decide +kernel
theorem dL_law_154 : decode cL_law 154 = .ok (.ireturn, 1) := by decide +kernel
theorem dL_law_155 : decode cL_law 155 = .ok (.iconst 0, 1) := by decide +kernel
theorem dL_law_156 : decode cL_law 156 = .ok (.istore_n 2, 1) := by decide +kernel
theorem dL_law_157 : decode cL_law 157 = .ok (.iload_n 2, 1) := by decide +kernel
theorem dL_law_158 : decode cL_law 158 = .ok (.bipush 12, 2) := by decide +kernel
theorem dL_law_160 : decode cL_law 160 = .ok (.if_icmp .ge 26, 3) := by decide +kernel
theorem dL_law_163 : decode cL_law 163 = .ok (.aload_n 1, 1) := by decide +kernel
theorem dL_law_164 : decode cL_law 164 = .ok (.iload_n 2, 1) := by decide +kernel
theorem dL_law_165 : decode cL_law 165 = .ok (.iconst 4, 1) := by decide +kernel
theorem dL_law_166 : decode cL_law 166 = .ok (.irem, 1) := by decide +kernel
theorem dL_law_167 : decode cL_law 167 = .ok (.iload_n 2, 1) := by decide +kernel
theorem dL_law_168 : decode cL_law 168 = .ok (.iconst 4, 1) := by decide +kernel
theorem dL_law_169 : decode cL_law 169 = .ok (.idiv, 1) := by decide +kernel
theorem dL_law_170 : decode cL_law 170 = .ok (.iload_n 2, 1) := by decide +kernel
theorem dL_law_171 : decode cL_law 171 = .ok (.invokestatic 175, 3) := by decide +kernel
theorem dL_law_174 : decode cL_law 174 = .ok (.iload_n 2, 1) := by decide +kernel
theorem dL_law_175 : decode cL_law 175 = .ok (.if_icmp .eq 5, 3) := by decide +kernel
theorem dL_law_178 : decode cL_law 178 = .ok (.iconst 0, 1) := by decide +kernel
theorem dL_law_179 : decode cL_law 179 = .ok (.ireturn, 1) := by decide +kernel
theorem dL_law_180 : decode cL_law 180 = .ok (.iinc 2 1, 3) := by decide +kernel
theorem dL_law_183 : decode cL_law 183 = .ok (.goto (-26), 3) := by decide +kernel
theorem dL_law_186 : decode cL_law 186 = .ok (.aload_n 1, 1) := by decide +kernel
theorem dL_law_187 : decode cL_law 187 = .ok (.iconst 3, 1) := by decide +kernel
theorem dL_law_188 : decode cL_law 188 = .ok (.iconst 5, 1) := by decide +kernel
theorem dL_law_189 : decode cL_law 189 = .ok (.iconst 0, 1) := by decide +kernel
theorem dL_law_190 : decode cL_law 190 = .ok (.invokestatic 175, 3) := by decide +kernel
theorem dL_law_193 : decode cL_law 193 = .ok (.sipush (-1003), 3) := by decide +kernel
theorem dL_law_196 : decode cL_law 196 = .ok (.if_icmp .ne 75, 3) := by decide +kernel
theorem dL_law_199 : decode cL_law 199 = .ok (.aload_n 1, 1) := by decide +kernel
theorem dL_law_200 : decode cL_law 200 = .ok (.invokevirtual 335, 3) := by decide +kernel
theorem dL_law_203 : decode cL_law 203 = .ok (.bipush 66, 2) := by decide +kernel
theorem dL_law_205 : decode cL_law 205 = .ok (.if_icmp .ne 66, 3) := by decide +kernel
theorem dL_law_208 : decode cL_law 208 = .ok (.aload_n 1, 1) := by decide +kernel
theorem dL_law_209 : decode cL_law 209 = .ok (.iconst 2, 1) := by decide +kernel
theorem dL_law_210 : decode cL_law 210 = .ok (.iconst 0, 1) := by decide +kernel
theorem dL_law_211 : decode cL_law 211 = .ok (.invokestatic 178, 3) := by decide +kernel
theorem dL_law_214 : decode cL_law 214 = .ok (.iconst 5, 1) := by decide +kernel
theorem dL_law_215 : decode cL_law 215 = .ok (.if_icmp .ne 56, 3) := by decide +kernel
theorem dL_law_218 : decode cL_law 218 = .ok (.aload_n 1, 1) := by decide +kernel
theorem dL_law_219 : decode cL_law 219 = .ok (.iconst 1, 1) := by decide +kernel
theorem dL_law_220 : decode cL_law 220 = .ok (.invokestatic 186, 3) := by decide +kernel
theorem dL_law_223 : decode cL_law 223 = .ok (.ifCond .lt 48, 3) := by decide +kernel
theorem dL_law_226 : decode cL_law 226 = .ok (.aload_n 1, 1) := by decide +kernel
theorem dL_law_227 : decode cL_law 227 = .ok (.iconst 2, 1) := by decide +kernel
theorem dL_law_228 : decode cL_law 228 = .ok (.invokestatic 233, 3) := by decide +kernel
theorem dL_law_231 : decode cL_law 231 = .ok (.bipush 18, 2) := by decide +kernel
theorem dL_law_233 : decode cL_law 233 = .ok (.if_icmp .ne 38, 3) := by decide +kernel
theorem dL_law_236 : decode cL_law 236 = .ok (.aload_n 1, 1) := by decide +kernel
theorem dL_law_237 : decode cL_law 237 = .ok (.bipush 11, 2) := by decide +kernel
theorem dL_law_239 : decode cL_law 239 = .ok (.bipush 10, 2) := by decide +kernel
theorem dL_law_241 : decode cL_law 241 = .ok (.bipush 9, 2) := by decide +kernel
theorem dL_law_243 : decode cL_law 243 = .ok (.invokestatic 263, 3) := by decide +kernel
theorem dL_law_246 : decode cL_law 246 = .ok (.bipush 19, 2) := by decide +kernel
theorem dL_law_248 : decode cL_law 248 = .ok (.if_icmp .ne 23, 3) := by decide +kernel
theorem dL_law_251 : decode cL_law 251 = .ok (.aload_n 1, 1) := by decide +kernel
theorem dL_law_252 : decode cL_law 252 = .ok (.iconst 0, 1) := by decide +kernel
theorem dL_law_253 : decode cL_law 253 = .ok (.invokestatic 257, 3) := by decide +kernel
theorem dL_law_256 : decode cL_law 256 = .ok (.bipush 11, 2) := by decide +kernel
theorem dL_law_258 : decode cL_law 258 = .ok (.if_icmp .ne 13, 3) := by decide +kernel
theorem dL_law_261 : decode cL_law 261 = .ok (.aload_n 1, 1) := by decide +kernel
theorem dL_law_262 : decode cL_law 262 = .ok (.bipush 10, 2) := by decide +kernel
theorem dL_law_264 : decode cL_law 264 = .ok (.invokestatic 300, 3) := by decide +kernel
theorem dL_law_267 : decode cL_law 267 = .ok (.iconst 2, 1) := by decide +kernel
theorem dL_law_268 : decode cL_law 268 = .ok (.if_icmp .eq 5, 3) := by decide +kernel
theorem dL_law_271 : decode cL_law 271 = .ok (.iconst 0, 1) := by decide +kernel
theorem dL_law_272 : decode cL_law 272 = .ok (.ireturn, 1) := by decide +kernel
theorem dL_law_273 : decode cL_law 273 = .ok (.aload_n 1, 1) := by decide +kernel
theorem dL_law_274 : decode cL_law 274 = .ok (.invokestatic 328, 3) := by decide +kernel
theorem dL_law_277 : decode cL_law 277 = .ok (.bipush 7, 2) := by decide +kernel
theorem dL_law_279 : decode cL_law 279 = .ok (.if_icmp .ne 133, 3) := by decide +kernel
theorem dL_law_282 : decode cL_law 282 = .ok (.aload_n 1, 1) := by decide +kernel
theorem dL_law_283 : decode cL_law 283 = .ok (.invokevirtual 188, 3) := by decide +kernel
theorem dL_law_286 : decode cL_law 286 = .ok (.bipush 12, 2) := by decide +kernel
theorem dL_law_288 : decode cL_law 288 = .ok (.if_icmp .ne 124, 3) := by decide +kernel
theorem dL_law_291 : decode cL_law 291 = .ok (.aload_n 1, 1) := by decide +kernel
theorem dL_law_292 : decode cL_law 292 = .ok (.invokestatic 328, 3) := by decide +kernel
theorem dL_law_295 : decode cL_law 295 = .ok (.bipush 6, 2) := by decide +kernel
theorem dL_law_297 : decode cL_law 297 = .ok (.if_icmp .ne 115, 3) := by decide +kernel
theorem dL_law_300 : decode cL_law 300 = .ok (.aload_n 1, 1) := by decide +kernel
theorem dL_law_301 : decode cL_law 301 = .ok (.bipush 11, 2) := by decide +kernel
theorem dL_law_303 : decode cL_law 303 = .ok (.invokestatic 300, 3) := by decide +kernel
theorem dL_law_306 : decode cL_law 306 = .ok (.bipush 11, 2) := by decide +kernel
theorem dL_law_308 : decode cL_law 308 = .ok (.if_icmp .ne 104, 3) := by decide +kernel
theorem dL_law_311 : decode cL_law 311 = .ok (.aload_n 1, 1) := by decide +kernel
theorem dL_law_312 : decode cL_law 312 = .ok (.invokestatic 328, 3) := by decide +kernel
theorem dL_law_315 : decode cL_law 315 = .ok (.iconst 5, 1) := by decide +kernel
theorem dL_law_316 : decode cL_law 316 = .ok (.if_icmp .ne 96, 3) := by decide +kernel
theorem dL_law_319 : decode cL_law 319 = .ok (.aload_n 1, 1) := by decide +kernel
theorem dL_law_320 : decode cL_law 320 = .ok (.iconst 2, 1) := by decide +kernel
theorem dL_law_321 : decode cL_law 321 = .ok (.invokestatic 233, 3) := by decide +kernel
theorem dL_law_324 : decode cL_law 324 = .ok (.ifCond .ne 88, 3) := by decide +kernel
theorem dL_law_327 : decode cL_law 327 = .ok (.aload_n 1, 1) := by decide +kernel
theorem dL_law_328 : decode cL_law 328 = .ok (.invokevirtual 215, 3) := by decide +kernel
theorem dL_law_331 : decode cL_law 331 = .ok (.bipush 60, 2) := by decide +kernel
theorem dL_law_333 : decode cL_law 333 = .ok (.if_icmp .ne 79, 3) := by decide +kernel
theorem dL_law_336 : decode cL_law 336 = .ok (.aload_n 1, 1) := by decide +kernel
theorem dL_law_337 : decode cL_law 337 = .ok (.invokestatic 328, 3) := by decide +kernel
theorem dL_law_340 : decode cL_law 340 = .ok (.iconst 4, 1) := by decide +kernel
theorem dL_law_341 : decode cL_law 341 = .ok (.if_icmp .ne 71, 3) := by decide +kernel
theorem dL_law_344 : decode cL_law 344 = .ok (.aload_n 1, 1) := by decide +kernel
theorem dL_law_345 : decode cL_law 345 = .ok (.iconst 2, 1) := by decide +kernel
theorem dL_law_346 : decode cL_law 346 = .ok (.invokestatic 306, 3) := by decide +kernel
theorem dL_law_349 : decode cL_law 349 = .ok (.iconst 5, 1) := by decide +kernel
theorem dL_law_350 : decode cL_law 350 = .ok (.if_icmp .ne 62, 3) := by decide +kernel
theorem dL_law_353 : decode cL_law 353 = .ok (.aload_n 1, 1) := by decide +kernel
theorem dL_law_354 : decode cL_law 354 = .ok (.invokestatic 328, 3) := by decide +kernel
theorem dL_law_357 : decode cL_law 357 = .ok (.iconst 3, 1) := by decide +kernel
theorem dL_law_358 : decode cL_law 358 = .ok (.if_icmp .ne 54, 3) := by decide +kernel
theorem dL_law_361 : decode cL_law 361 = .ok (.aload_n 1, 1) := by decide +kernel
theorem dL_law_362 : decode cL_law 362 = .ok (.invokevirtual 188, 3) := by decide +kernel
theorem dL_law_365 : decode cL_law 365 = .ok (.bipush 11, 2) := by decide +kernel
theorem dL_law_367 : decode cL_law 367 = .ok (.if_icmp .ne 45, 3) := by decide +kernel
theorem dL_law_370 : decode cL_law 370 = .ok (.aload_n 1, 1) := by decide +kernel
theorem dL_law_371 : decode cL_law 371 = .ok (.invokestatic 328, 3) := by decide +kernel
theorem dL_law_374 : decode cL_law 374 = .ok (.iconst 2, 1) := by decide +kernel
theorem dL_law_375 : decode cL_law 375 = .ok (.if_icmp .ne 37, 3) := by decide +kernel
theorem dL_law_378 : decode cL_law 378 = .ok (.aload_n 1, 1) := by decide +kernel
theorem dL_law_379 : decode cL_law 379 = .ok (.invokestatic 328, 3) := by decide +kernel
theorem dL_law_382 : decode cL_law 382 = .ok (.iconst 1, 1) := by decide +kernel
theorem dL_law_383 : decode cL_law 383 = .ok (.if_icmp .ne 29, 3) := by decide +kernel
theorem dL_law_386 : decode cL_law 386 = .ok (.aload_n 1, 1) := by decide +kernel
theorem dL_law_387 : decode cL_law 387 = .ok (.invokestatic 328, 3) := by decide +kernel
theorem dL_law_390 : decode cL_law 390 = .ok (.ifCond .ne 22, 3) := by decide +kernel
theorem dL_law_393 : decode cL_law 393 = .ok (.aload_n 1, 1) := by decide +kernel
theorem dL_law_394 : decode cL_law 394 = .ok (.invokevirtual 188, 3) := by decide +kernel
theorem dL_law_397 : decode cL_law 397 = .ok (.bipush 8, 2) := by decide +kernel
theorem dL_law_399 : decode cL_law 399 = .ok (.if_icmp .ne 13, 3) := by decide +kernel
theorem dL_law_402 : decode cL_law 402 = .ok (.aload_n 1, 1) := by decide +kernel
theorem dL_law_403 : decode cL_law 403 = .ok (.invokestatic 328, 3) := by decide +kernel
theorem dL_law_406 : decode cL_law 406 = .ok (.sipush (-1001), 3) := by decide +kernel
theorem dL_law_409 : decode cL_law 409 = .ok (.if_icmp .eq 5, 3) := by decide +kernel
theorem dL_law_412 : decode cL_law 412 = .ok (.iconst 0, 1) := by decide +kernel
theorem dL_law_413 : decode cL_law 413 = .ok (.ireturn, 1) := by decide +kernel
theorem dL_law_414 : decode cL_law 414 = .ok (.aload_n 1, 1) := by decide +kernel
theorem dL_law_415 : decode cL_law 415 = .ok (.invokestatic 330, 3) := by decide +kernel
theorem dL_law_418 : decode cL_law 418 = .ok (.ifCond .ne 34, 3) := by decide +kernel
theorem dL_law_421 : decode cL_law 421 = .ok (.aload_n 1, 1) := by decide +kernel
theorem dL_law_422 : decode cL_law 422 = .ok (.invokevirtual 188, 3) := by decide +kernel
theorem dL_law_425 : decode cL_law 425 = .ok (.ifCond .ne 27, 3) := by decide +kernel
theorem dL_law_428 : decode cL_law 428 = .ok (.aload_n 1, 1) := by decide +kernel
theorem dL_law_429 : decode cL_law 429 = .ok (.invokevirtual 215, 3) := by decide +kernel
theorem dL_law_432 : decode cL_law 432 = .ok (.ifCond .ne 20, 3) := by decide +kernel
theorem dL_law_435 : decode cL_law 435 = .ok (.aload_n 1, 1) := by decide +kernel
theorem dL_law_436 : decode cL_law 436 = .ok (.invokevirtual 224, 3) := by decide +kernel
theorem dL_law_439 : decode cL_law 439 = .ok (.ifCond .ne 13, 3) := by decide +kernel
theorem dL_law_442 : decode cL_law 442 = .ok (.aload_n 1, 1) := by decide +kernel
theorem dL_law_443 : decode cL_law 443 = .ok (.invokestatic 328, 3) := by decide +kernel
theorem dL_law_446 : decode cL_law 446 = .ok (.sipush (-1001), 3) := by decide +kernel
theorem dL_law_449 : decode cL_law 449 = .ok (.if_icmp .eq 5, 3) := by decide +kernel
theorem dL_law_452 : decode cL_law 452 = .ok (.iconst 0, 1) := by decide +kernel
theorem dL_law_453 : decode cL_law 453 = .ok (.ireturn, 1) := by decide +kernel
theorem dL_law_454 : decode cL_law 454 = .ok (.new 8, 3) := by decide +kernel
theorem dL_law_457 : decode cL_law 457 = .ok (.dup, 1) := by decide +kernel
theorem dL_law_458 : decode cL_law 458 = .ok (.invokespecial 327, 3) := by decide +kernel
theorem dL_law_461 : decode cL_law 461 = .ok (.astore_n 2, 1) := by decide +kernel
theorem dL_law_462 : decode cL_law 462 = .ok (.aload_n 2, 1) := by decide +kernel
theorem dL_law_463 : decode cL_law 463 = .ok (.aload_n 0, 1) := by decide +kernel
theorem dL_law_464 : decode cL_law 464 = .ok (.invokestatic 338, 3) := by decide +kernel
theorem dL_law_467 : decode cL_law 467 = .ok (.ifCond .eq 11, 3) := by decide +kernel
theorem dL_law_470 : decode cL_law 470 = .ok (.aload_n 2, 1) := by decide +kernel
theorem dL_law_471 : decode cL_law 471 = .ok (.invokevirtual 188, 3) := by decide +kernel
theorem dL_law_474 : decode cL_law 474 = .ok (.iconst 2, 1) := by decide +kernel
theorem dL_law_475 : decode cL_law 475 = .ok (.if_icmp .ge 17, 3) := by decide +kernel
theorem dL_law_478 : decode cL_law 478 = .ok (.aload_n 2, 1) := by decide +kernel
theorem dL_law_479 : decode cL_law 479 = .ok (.invokevirtual 188, 3) := by decide +kernel
theorem dL_law_482 : decode cL_law 482 = .ok (.iconst 1, 1) := by decide +kernel
theorem dL_law_483 : decode cL_law 483 = .ok (.if_icmp .ne 7, 3) := by decide +kernel
theorem dL_law_486 : decode cL_law 486 = .ok (.iconst 1, 1) := by decide +kernel
theorem dL_law_487 : decode cL_law 487 = .ok (.goto 4, 3) := by decide +kernel
theorem dL_law_490 : decode cL_law 490 = .ok (.iconst 0, 1) := by decide +kernel
theorem dL_law_491 : decode cL_law 491 = .ok (.ireturn, 1) := by decide +kernel
theorem dL_law_492 : decode cL_law 492 = .ok (.aload_n 2, 1) := by decide +kernel
theorem dL_law_493 : decode cL_law 493 = .ok (.invokestatic 289, 3) := by decide +kernel
theorem dL_law_496 : decode cL_law 496 = .ok (.lstore_n 3, 1) := by decide +kernel
theorem dL_law_497 : decode cL_law 497 = .ok (.aload_n 2, 1) := by decide +kernel
theorem dL_law_498 : decode cL_law 498 = .ok (.invokestatic 289, 3) := by decide +kernel
theorem dL_law_501 : decode cL_law 501 = .ok (.lload_n 3, 1) := by decide +kernel
theorem dL_law_502 : decode cL_law 502 = .ok (.lcmp, 1) := by decide +kernel
theorem dL_law_503 : decode cL_law 503 = .ok (.ifCond .ne 10, 3) := by decide +kernel
theorem dL_law_506 : decode cL_law 506 = .ok (.aload_n 2, 1) := by decide +kernel
theorem dL_law_507 : decode cL_law 507 = .ok (.invokestatic 342, 3) := by decide +kernel
theorem dL_law_510 : decode cL_law 510 = .ok (.ifCond .ne 5, 3) := by decide +kernel
theorem dL_law_513 : decode cL_law 513 = .ok (.iconst 0, 1) := by decide +kernel
theorem dL_law_514 : decode cL_law 514 = .ok (.ireturn, 1) := by decide +kernel
theorem dL_law_515 : decode cL_law 515 = .ok (.aload_n 2, 1) := by decide +kernel
theorem dL_law_516 : decode cL_law 516 = .ok (.invokevirtual 332, 3) := by decide +kernel
theorem dL_law_519 : decode cL_law 519 = .ok (.istore 5, 2) := by decide +kernel
theorem dL_law_521 : decode cL_law 521 = .ok (.iload 5, 2) := by decide +kernel
theorem dL_law_523 : decode cL_law 523 = .ok (.aload_n 2, 1) := by decide +kernel
theorem dL_law_524 : decode cL_law 524 = .ok (.invokevirtual 188, 3) := by decide +kernel
theorem dL_law_527 : decode cL_law 527 = .ok (.if_icmp .ne 30, 3) := by decide +kernel
theorem dL_law_530 : decode cL_law 530 = .ok (.aload_n 2, 1) := by decide +kernel
theorem dL_law_531 : decode cL_law 531 = .ok (.invokestatic 289, 3) := by decide +kernel
theorem dL_law_534 : decode cL_law 534 = .ok (.lload_n 3, 1) := by decide +kernel
theorem dL_law_535 : decode cL_law 535 = .ok (.lcmp, 1) := by decide +kernel
theorem dL_law_536 : decode cL_law 536 = .ok (.ifCond .ne 21, 3) := by decide +kernel
theorem dL_law_539 : decode cL_law 539 = .ok (.aload_n 2, 1) := by decide +kernel
theorem dL_law_540 : decode cL_law 540 = .ok (.invokestatic 330, 3) := by decide +kernel
theorem dL_law_543 : decode cL_law 543 = .ok (.iload 5, 2) := by decide +kernel
theorem dL_law_545 : decode cL_law 545 = .ok (.if_icmp .ne 12, 3) := by decide +kernel
theorem dL_law_548 : decode cL_law 548 = .ok (.aload_n 2, 1) := by decide +kernel
theorem dL_law_549 : decode cL_law 549 = .ok (.invokestatic 289, 3) := by decide +kernel
theorem dL_law_552 : decode cL_law 552 = .ok (.lload_n 3, 1) := by decide +kernel
theorem dL_law_553 : decode cL_law 553 = .ok (.lcmp, 1) := by decide +kernel
theorem dL_law_554 : decode cL_law 554 = .ok (.ifCond .eq 5, 3) := by decide +kernel
theorem dL_law_557 : decode cL_law 557 = .ok (.iconst 0, 1) := by decide +kernel
theorem dL_law_558 : decode cL_law 558 = .ok (.ireturn, 1) := by decide +kernel
theorem dL_law_559 : decode cL_law 559 = .ok (.bipush 9, 2) := by decide +kernel
theorem dL_law_561 : decode cL_law 561 = .ok (.newarray .long, 2) := by decide +kernel
theorem dL_law_563 : decode cL_law 563 = .ok (.astore 6, 2) := by decide +kernel
theorem dL_law_565 : decode cL_law 565 = .ok (.iconst 0, 1) := by decide +kernel
theorem dL_law_566 : decode cL_law 566 = .ok (.istore 7, 2) := by decide +kernel
theorem dL_law_568 : decode cL_law 568 = .ok (.iconst 0, 1) := by decide +kernel
theorem dL_law_569 : decode cL_law 569 = .ok (.istore 8, 2) := by decide +kernel
theorem dL_law_571 : decode cL_law 571 = .ok (.iload 8, 2) := by decide +kernel
theorem dL_law_573 : decode cL_law 573 = .ok (.bipush 8, 2) := by decide +kernel
theorem dL_law_575 : decode cL_law 575 = .ok (.if_icmp .ge 63, 3) := by decide +kernel
theorem dL_law_578 : decode cL_law 578 = .ok (.aload_n 2, 1) := by decide +kernel
theorem dL_law_579 : decode cL_law 579 = .ok (.invokestatic 289, 3) := by decide +kernel
theorem dL_law_582 : decode cL_law 582 = .ok (.lstore 9, 2) := by decide +kernel
theorem dL_law_584 : decode cL_law 584 = .ok (.aload_n 2, 1) := by decide +kernel
theorem dL_law_585 : decode cL_law 585 = .ok (.aload_n 0, 1) := by decide +kernel
theorem dL_law_586 : decode cL_law 586 = .ok (.bipush 20, 2) := by decide +kernel
theorem dL_law_588 : decode cL_law 588 = .ok (.iload 8, 2) := by decide +kernel
theorem dL_law_590 : decode cL_law 590 = .ok (.iadd, 1) := by decide +kernel
theorem dL_law_591 : decode cL_law 591 = .ok (.invokestatic 168, 3) := by decide +kernel
theorem dL_law_594 : decode cL_law 594 = .ok (.iload 8, 2) := by decide +kernel
theorem dL_law_596 : decode cL_law 596 = .ok (.sipush 977, 3) := by decide +kernel
theorem dL_law_599 : decode cL_law 599 = .ok (.imul, 1) := by decide +kernel
theorem dL_law_600 : decode cL_law 600 = .ok (.ixor, 1) := by decide +kernel
theorem dL_law_601 : decode cL_law 601 = .ok (.invokestatic 346, 3) := by decide +kernel
theorem dL_law_604 : decode cL_law 604 = .ok (.ifCond .eq 16, 3) := by decide +kernel
theorem dL_law_607 : decode cL_law 607 = .ok (.aload 6, 2) := by decide +kernel
theorem dL_law_609 : decode cL_law 609 = .ok (.iload 7, 2) := by decide +kernel
theorem dL_law_611 : decode cL_law 611 = .ok (.iinc 7 1, 3) := by decide +kernel
theorem dL_law_614 : decode cL_law 614 = .ok (.lload 9, 2) := by decide +kernel
theorem dL_law_616 : decode cL_law 616 = .ok (.lastore, 1) := by decide +kernel
theorem dL_law_617 : decode cL_law 617 = .ok (.goto 15, 3) := by decide +kernel
theorem dL_law_620 : decode cL_law 620 = .ok (.aload_n 2, 1) := by decide +kernel
theorem dL_law_621 : decode cL_law 621 = .ok (.invokestatic 289, 3) := by decide +kernel
theorem dL_law_624 : decode cL_law 624 = .ok (.lload 9, 2) := by decide +kernel
theorem dL_law_626 : decode cL_law 626 = .ok (.lcmp, 1) := by decide +kernel
theorem dL_law_627 : decode cL_law 627 = .ok (.ifCond .eq 5, 3) := by decide +kernel
theorem dL_law_630 : decode cL_law 630 = .ok (.iconst 0, 1) := by decide +kernel
theorem dL_law_631 : decode cL_law 631 = .ok (.ireturn, 1) := by decide +kernel
theorem dL_law_632 : decode cL_law 632 = .ok (.iinc 8 1, 3) := by decide +kernel
theorem dL_law_635 : decode cL_law 635 = .ok (.goto (-64), 3) := by decide +kernel
theorem dL_law_638 : decode cL_law 638 = .ok (.iconst 1, 1) := by decide +kernel
theorem dL_law_639 : decode cL_law 639 = .ok (.istore 8, 2) := by decide +kernel
theorem dL_law_641 : decode cL_law 641 = .ok (.iload 8, 2) := by decide +kernel
theorem dL_law_643 : decode cL_law 643 = .ok (.iload 7, 2) := by decide +kernel
theorem dL_law_645 : decode cL_law 645 = .ok (.if_icmp .gt 39, 3) := by decide +kernel
theorem dL_law_648 : decode cL_law 648 = .ok (.aload_n 2, 1) := by decide +kernel
theorem dL_law_649 : decode cL_law 649 = .ok (.invokestatic 328, 3) := by decide +kernel
theorem dL_law_652 : decode cL_law 652 = .ok (.iload 7, 2) := by decide +kernel
theorem dL_law_654 : decode cL_law 654 = .ok (.iload 8, 2) := by decide +kernel
theorem dL_law_656 : decode cL_law 656 = .ok (.isub, 1) := by decide +kernel
theorem dL_law_657 : decode cL_law 657 = .ok (.if_icmp .ne 19, 3) := by decide +kernel
theorem dL_law_660 : decode cL_law 660 = .ok (.aload_n 2, 1) := by decide +kernel
theorem dL_law_661 : decode cL_law 661 = .ok (.invokestatic 289, 3) := by decide +kernel
theorem dL_law_664 : decode cL_law 664 = .ok (.aload 6, 2) := by decide +kernel
theorem dL_law_666 : decode cL_law 666 = .ok (.iload 7, 2) := by decide +kernel
theorem dL_law_668 : decode cL_law 668 = .ok (.iload 8, 2) := by decide +kernel
theorem dL_law_670 : decode cL_law 670 = .ok (.isub, 1) := by decide +kernel
theorem dL_law_671 : decode cL_law 671 = .ok (.laload, 1) := by decide +kernel
theorem dL_law_672 : decode cL_law 672 = .ok (.lcmp, 1) := by decide +kernel
theorem dL_law_673 : decode cL_law 673 = .ok (.ifCond .eq 5, 3) := by decide +kernel
theorem dL_law_676 : decode cL_law 676 = .ok (.iconst 0, 1) := by decide +kernel
theorem dL_law_677 : decode cL_law 677 = .ok (.ireturn, 1) := by decide +kernel
theorem dL_law_678 : decode cL_law 678 = .ok (.iinc 8 1, 3) := by decide +kernel
theorem dL_law_681 : decode cL_law 681 = .ok (.goto (-40), 3) := by decide +kernel
theorem dL_law_684 : decode cL_law 684 = .ok (.aload_n 2, 1) := by decide +kernel
theorem dL_law_685 : decode cL_law 685 = .ok (.invokestatic 328, 3) := by decide +kernel
theorem dL_law_688 : decode cL_law 688 = .ok (.sipush (-1001), 3) := by decide +kernel
theorem dL_law_691 : decode cL_law 691 = .ok (.if_icmp .ne 35, 3) := by decide +kernel
theorem dL_law_694 : decode cL_law 694 = .ok (.aload_n 2, 1) := by decide +kernel
theorem dL_law_695 : decode cL_law 695 = .ok (.invokestatic 330, 3) := by decide +kernel
theorem dL_law_698 : decode cL_law 698 = .ok (.iload 5, 2) := by decide +kernel
theorem dL_law_700 : decode cL_law 700 = .ok (.if_icmp .ne 26, 3) := by decide +kernel
theorem dL_law_703 : decode cL_law 703 = .ok (.aload_n 2, 1) := by decide +kernel
theorem dL_law_704 : decode cL_law 704 = .ok (.invokestatic 289, 3) := by decide +kernel
theorem dL_law_707 : decode cL_law 707 = .ok (.lload_n 3, 1) := by decide +kernel
theorem dL_law_708 : decode cL_law 708 = .ok (.lcmp, 1) := by decide +kernel
theorem dL_law_709 : decode cL_law 709 = .ok (.ifCond .ne 17, 3) := by decide +kernel
theorem dL_law_712 : decode cL_law 712 = .ok (.aload_n 2, 1) := by decide +kernel
theorem dL_law_713 : decode cL_law 713 = .ok (.invokestatic 328, 3) := by decide +kernel
theorem dL_law_716 : decode cL_law 716 = .ok (.sipush (-1001), 3) := by decide +kernel
theorem dL_law_719 : decode cL_law 719 = .ok (.if_icmp .ne 7, 3) := by decide +kernel
theorem dL_law_722 : decode cL_law 722 = .ok (.iconst 1, 1) := by decide +kernel
theorem dL_law_723 : decode cL_law 723 = .ok (.goto 4, 3) := by decide +kernel
theorem dL_law_726 : decode cL_law 726 = .ok (.iconst 0, 1) := by decide +kernel
theorem dL_law_727 : decode cL_law 727 = .ok (.ireturn, 1) := by decide +kernel
abbrev vwCl : List vw_C := [(RJ0, TJ0, 4), (RJ4, TJ4, 4), (RJx00060, TJx00060, 6), (RJx7c733, TJx7c733, 6), (RX1, TX1, 9), (RX3, TX3, 2), (RX4, TX4, 3), (RX5, TX5, 2), (RX6, TX6, 6), (RX7, TX7, 3), (RX8, TX8, 7)]
