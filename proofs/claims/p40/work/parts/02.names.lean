def RX0 : String := "CableShip$Calendar"
def TX0 : u_T := fun k => match k with
  | 0 => ("CableShip$Calendar", "today", "I", false)
  | 1 => ("CableShip$Calendar", "draw", "I", false)
  | _ => ("CableShip$Calendar", "busyUntil", "I", false)
def tyX0 : Nat → FieldType := fun k => match k with
  | 0 => .int
  | 1 => .int
  | _ => .int
abbrev wsX00 : List Cond := u_ws RX0 TX0 3
theorem nmX0 : ∀ a, a < 3 → ∀ b, b < 3 → a ≠ b → (TX0 a).2.1 ≠ (TX0 b).2.1 := by decide +kernel
theorem tyX0_ok : ∀ k, k < 3 → parseFieldDescriptor (TX0 k).2.2.1 = some (tyX0 k) := by decide +kernel
abbrev cX0_init : ByteArray := prog_2_method_1_code
def yX0_init : MethodName := ⟨RX0, "<init>", "()V"⟩
abbrev cX0_nextDay : ByteArray := prog_2_method_2_code
def yX0_nextDay : MethodName := ⟨RX0, "nextDay", "()V"⟩
abbrev cX0_wavesToday : ByteArray := prog_2_method_3_code
def yX0_wavesToday : MethodName := ⟨RX0, "wavesToday", "()I"⟩
abbrev cX0_isForWork : ByteArray := prog_2_method_4_code
def yX0_isForWork : MethodName := ⟨RX0, "isForWork", "()Z"⟩
def RX1 : String := "CableShip$Deeds"
def TX1 : u_T := fun k => match k with
  | _ => ("CableShip$Deeds", "done", "LCableShip$Table;", true)
def tyX1 : Nat → FieldType := fun k => match k with
  | _ => .object "CableShip$Table"
abbrev wsX10 : List Cond := u_ws RX1 TX1 1
theorem nmX1 : ∀ a, a < 1 → ∀ b, b < 1 → a ≠ b → (TX1 a).2.1 ≠ (TX1 b).2.1 := by decide +kernel
theorem tyX1_ok : ∀ k, k < 1 → parseFieldDescriptor (TX1 k).2.2.1 = some (tyX1 k) := by decide +kernel
abbrev cX1_init : ByteArray := prog_3_method_1_code
def yX1_init : MethodName := ⟨RX1, "<init>", "()V"⟩
abbrev cX1_putIn : ByteArray := prog_3_method_2_code
def yX1_putIn : MethodName := ⟨RX1, "putIn", "(IIII)V"⟩
abbrev cX1_cutOut : ByteArray := prog_3_method_3_code
def yX1_cutOut : MethodName := ⟨RX1, "cutOut", "(II)V"⟩
abbrev cX1_metreAt : ByteArray := prog_3_method_4_code
def yX1_metreAt : MethodName := ⟨RX1, "metreAt", "(I)I"⟩
def RX2 : String := "CableShip$FaultBook"
def TX2 : u_T := fun k => match k with
  | _ => ("CableShip$FaultBook", "rows", "LCableShip$Table;", true)
def tyX2 : Nat → FieldType := fun k => match k with
  | _ => .object "CableShip$Table"
abbrev wsX20 : List Cond := u_ws RX2 TX2 1
theorem nmX2 : ∀ a, a < 1 → ∀ b, b < 1 → a ≠ b → (TX2 a).2.1 ≠ (TX2 b).2.1 := by decide +kernel
theorem tyX2_ok : ∀ k, k < 1 → parseFieldDescriptor (TX2 k).2.2.1 = some (tyX2 k) := by decide +kernel
abbrev cX2_init : ByteArray := prog_4_method_1_code
def yX2_init : MethodName := ⟨RX2, "<init>", "()V"⟩
abbrev cX2_beginAnew : ByteArray := prog_4_method_6_code
def yX2_beginAnew : MethodName := ⟨RX2, "beginAnew", "(I)V"⟩
abbrev cX2_dropFrom : ByteArray := prog_4_method_7_code
def yX2_dropFrom : MethodName := ⟨RX2, "dropFrom", "(I)V"⟩
abbrev cX2_cutOut : ByteArray := prog_4_method_8_code
def yX2_cutOut : MethodName := ⟨RX2, "cutOut", "(III)I"⟩
def RX3 : String := "CableShip$Hold"
def TX3 : u_T := fun k => match k with
  | 0 => ("CableShip$Hold", "types", "[I", true)
  | 1 => ("CableShip$Hold", "stowed", "LCableShip$Table;", true)
  | 2 => ("CableShip$Hold", "gathered", "LCableShip$Table;", true)
  | 3 => ("CableShip$Hold", "pieces", "I", false)
  | _ => ("CableShip$Hold", "made", "I", false)
def tyX3 : Nat → FieldType := fun k => match k with
  | 0 => .array .int
  | 1 => .object "CableShip$Table"
  | 2 => .object "CableShip$Table"
  | 3 => .int
  | _ => .int
abbrev wsX30 : List Cond := u_ws RX3 TX3 5
theorem nmX3 : ∀ a, a < 5 → ∀ b, b < 5 → a ≠ b → (TX3 a).2.1 ≠ (TX3 b).2.1 := by decide +kernel
theorem tyX3_ok : ∀ k, k < 5 → parseFieldDescriptor (TX3 k).2.2.1 = some (tyX3 k) := by decide +kernel
abbrev cX3_init : ByteArray := prog_5_method_1_code
def yX3_init : MethodName := ⟨RX3, "<init>", "()V"⟩
abbrev cX3_stow : ByteArray := prog_5_method_2_code
def yX3_stow : MethodName := ⟨RX3, "stow", "(III)I"⟩
abbrev cX3_typeOf : ByteArray := prog_5_method_3_code
def yX3_typeOf : MethodName := ⟨RX3, "typeOf", "(I)I"⟩
abbrev cX3_metresIn : ByteArray := prog_5_method_4_code
def yX3_metresIn : MethodName := ⟨RX3, "metresIn", "(I)I"⟩
abbrev cX3_piecesIn : ByteArray := prog_5_method_5_code
def yX3_piecesIn : MethodName := ⟨RX3, "piecesIn", "(I)I"⟩
abbrev cX3_top : ByteArray := prog_5_method_6_code
def yX3_top : MethodName := ⟨RX3, "top", "(II)I"⟩
abbrev cX3_gather : ByteArray := prog_5_method_7_code
def yX3_gather : MethodName := ⟨RX3, "gather", "(II)Z"⟩
abbrev cX3_sendOut : ByteArray := prog_5_method_8_code
def yX3_sendOut : MethodName := ⟨RX3, "sendOut", "(II)V"⟩
abbrev cX3_fits : ByteArray := prog_5_method_9_code
def yX3_fits : MethodName := ⟨RX3, "fits", "(II)Z"⟩
abbrev cX3_holdsAt : ByteArray := prog_5_method_10_code
def yX3_holdsAt : MethodName := ⟨RX3, "holdsAt", "(I)Z"⟩
abbrev cX3_pull : ByteArray := prog_5_method_11_code
def yX3_pull : MethodName := ⟨RX3, "pull", "(II)I"⟩
abbrev cX3_mostPull : ByteArray := prog_5_method_12_code
def yX3_mostPull : MethodName := ⟨RX3, "mostPull", "(I)I"⟩
abbrev cX3_isNear : ByteArray := prog_5_method_13_code
def yX3_isNear : MethodName := ⟨RX3, "isNear", "(II)Z"⟩
def RX4 : String := "CableShip$Network"
def TX4 : u_T := fun k => match k with
  | 0 => ("CableShip$Network", "links", "LCableShip$Table;", true)
  | 1 => ("CableShip$Network", "demands", "LCableShip$Table;", true)
  | _ => ("CableShip$Network", "steps", "[I", true)
def tyX4 : Nat → FieldType := fun k => match k with
  | 0 => .object "CableShip$Table"
  | 1 => .object "CableShip$Table"
  | _ => .array .int
abbrev wsX40 : List Cond := u_ws RX4 TX4 3
theorem nmX4 : ∀ a, a < 3 → ∀ b, b < 3 → a ≠ b → (TX4 a).2.1 ≠ (TX4 b).2.1 := by decide +kernel
theorem tyX4_ok : ∀ k, k < 3 → parseFieldDescriptor (TX4 k).2.2.1 = some (tyX4 k) := by decide +kernel
abbrev cX4_init : ByteArray := prog_6_method_1_code
def yX4_init : MethodName := ⟨RX4, "<init>", "()V"⟩
def RX5 : String := "CableShip$Row"
def TX5 : u_T := fun k => match k with
  | 0 => ("CableShip$Row", "things", "LCableShip$Table;", true)
  | 1 => ("CableShip$Row", "deeds", "LCableShip$Deeds;", true)
  | 2 => ("CableShip$Row", "cellMetres", "[I", true)
  | 3 => ("CableShip$Row", "cells", "I", false)
  | _ => ("CableShip$Row", "metres", "I", false)
def tyX5 : Nat → FieldType := fun k => match k with
  | 0 => .object "CableShip$Table"
  | 1 => .object "CableShip$Deeds"
  | 2 => .array .int
  | 3 => .int
  | _ => .int
abbrev wsX50 : List Cond := u_ws RX5 TX5 5
theorem nmX5 : ∀ a, a < 5 → ∀ b, b < 5 → a ≠ b → (TX5 a).2.1 ≠ (TX5 b).2.1 := by decide +kernel
theorem tyX5_ok : ∀ k, k < 5 → parseFieldDescriptor (TX5 k).2.2.1 = some (tyX5 k) := by decide +kernel
abbrev cX5_init : ByteArray := prog_7_method_1_code
def yX5_init : MethodName := ⟨RX5, "<init>", "()V"⟩
abbrev cX5_beginOf : ByteArray := prog_7_method_2_code
def yX5_beginOf : MethodName := ⟨RX5, "beginOf", "(I)I"⟩
abbrev cX5_metresIn : ByteArray := prog_7_method_3_code
def yX5_metresIn : MethodName := ⟨RX5, "metresIn", "(I)I"⟩
abbrev cX5_endCell : ByteArray := prog_7_method_4_code
def yX5_endCell : MethodName := ⟨RX5, "endCell", "(I)V"⟩
abbrev cX5_lastKind : ByteArray := prog_7_method_5_code
def yX5_lastKind : MethodName := ⟨RX5, "lastKind", "()I"⟩
abbrev cX5_count : ByteArray := prog_7_method_6_code
def yX5_count : MethodName := ⟨RX5, "count", "(I)I"⟩
abbrev cX5_addBare : ByteArray := prog_7_method_7_code
def yX5_addBare : MethodName := ⟨RX5, "addBare", "(I)V"⟩
abbrev cX5_append : ByteArray := prog_7_method_8_code
def yX5_append : MethodName := ⟨RX5, "append", "(III)V"⟩
abbrev cX5_goesOn : ByteArray := prog_7_method_9_code
def yX5_goesOn : MethodName := ⟨RX5, "goesOn", "(III)Z"⟩
abbrev cX5_loseEnd : ByteArray := prog_7_method_10_code
def yX5_loseEnd : MethodName := ⟨RX5, "loseEnd", "(I)V"⟩
abbrev cX5_regainEnd : ByteArray := prog_7_method_11_code
def yX5_regainEnd : MethodName := ⟨RX5, "regainEnd", "(I)V"⟩
abbrev cX5_exchange : ByteArray := prog_7_method_12_code
def yX5_exchange : MethodName := ⟨RX5, "exchange", "(ILCableShip$Table;I)V"⟩
abbrev cX5_cutThings : ByteArray := prog_7_method_13_code
def yX5_cutThings : MethodName := ⟨RX5, "cutThings", "(II)I"⟩
abbrev cX5_divideAt : ByteArray := prog_7_method_14_code
def yX5_divideAt : MethodName := ⟨RX5, "divideAt", "(I)V"⟩
abbrev cX5_metreAt : ByteArray := prog_7_method_15_code
def yX5_metreAt : MethodName := ⟨RX5, "metreAt", "(I)I"⟩
abbrev cX5_metreByDeeds : ByteArray := prog_7_method_16_code
def yX5_metreByDeeds : MethodName := ⟨RX5, "metreByDeeds", "(I)I"⟩
abbrev cX5_pieceAt : ByteArray := prog_7_method_17_code
def yX5_pieceAt : MethodName := ⟨RX5, "pieceAt", "(I)I"⟩
def RX6 : String := "CableShip$Sea"
def TX6 : u_T := fun k => match k with
  | 0 => ("CableShip$Sea", "depths", "[I", true)
  | 1 => ("CableShip$Sea", "errors", "[I", true)
  | 2 => ("CableShip$Sea", "wrecks", "[Z", true)
  | _ => ("CableShip$Sea", "crossings", "[I", true)
def tyX6 : Nat → FieldType := fun k => match k with
  | 0 => .array .int
  | 1 => .array .int
  | 2 => .array .boolean
  | _ => .array .int
abbrev wsX60 : List Cond := u_ws RX6 TX6 4
theorem nmX6 : ∀ a, a < 4 → ∀ b, b < 4 → a ≠ b → (TX6 a).2.1 ≠ (TX6 b).2.1 := by decide +kernel
theorem tyX6_ok : ∀ k, k < 4 → parseFieldDescriptor (TX6 k).2.2.1 = some (tyX6 k) := by decide +kernel
abbrev cX6_init : ByteArray := prog_8_method_1_code
def yX6_init : MethodName := ⟨RX6, "<init>", "()V"⟩
abbrev cX6_takeSounding : ByteArray := prog_8_method_2_code
def yX6_takeSounding : MethodName := ⟨RX6, "takeSounding", "(III)V"⟩
abbrev cX6_depthOf : ByteArray := prog_8_method_3_code
def yX6_depthOf : MethodName := ⟨RX6, "depthOf", "(I)I"⟩
abbrev cX6_groundOf : ByteArray := prog_8_method_4_code
def yX6_groundOf : MethodName := ⟨RX6, "groundOf", "(I)I"⟩
abbrev cX6_hasWreck : ByteArray := prog_8_method_5_code
def yX6_hasWreck : MethodName := ⟨RX6, "hasWreck", "(I)Z"⟩
abbrev cX6_crossingOf : ByteArray := prog_8_method_7_code
def yX6_crossingOf : MethodName := ⟨RX6, "crossingOf", "(I)I"⟩
abbrev cX6_isOpen : ByteArray := prog_8_method_9_code
def yX6_isOpen : MethodName := ⟨RX6, "isOpen", "(I)Z"⟩
def RX7 : String := "CableShip$Table"
def TX7 : u_T := fun k => match k with
  | 0 => ("CableShip$Table", "values", "[I", false)
  | _ => ("CableShip$Table", "rows", "I", false)
def tyX7 : Nat → FieldType := fun k => match k with
  | 0 => .array .int
  | _ => .int
abbrev wsX70 : List Cond := u_ws RX7 TX7 2
theorem nmX7 : ∀ a, a < 2 → ∀ b, b < 2 → a ≠ b → (TX7 a).2.1 ≠ (TX7 b).2.1 := by decide +kernel
theorem tyX7_ok : ∀ k, k < 2 → parseFieldDescriptor (TX7 k).2.2.1 = some (tyX7 k) := by decide +kernel
abbrev cX7_init : ByteArray := prog_9_method_1_code
def yX7_init : MethodName := ⟨RX7, "<init>", "()V"⟩
abbrev cX7_get : ByteArray := prog_9_method_2_code
def yX7_get : MethodName := ⟨RX7, "get", "(II)I"⟩
abbrev cX7_set : ByteArray := prog_9_method_3_code
def yX7_set : MethodName := ⟨RX7, "set", "(III)V"⟩
abbrev cX7_add : ByteArray := prog_9_method_4_code
def yX7_add : MethodName := ⟨RX7, "add", "(IIII)V"⟩
abbrev cX7_insert : ByteArray := prog_9_method_5_code
def yX7_insert : MethodName := ⟨RX7, "insert", "(IIIII)V"⟩
abbrev cX7_remove : ByteArray := prog_9_method_6_code
def yX7_remove : MethodName := ⟨RX7, "remove", "(I)V"⟩
abbrev cX7_clear : ByteArray := prog_9_method_7_code
def yX7_clear : MethodName := ⟨RX7, "clear", "()V"⟩
def RX8 : String := "CableShip"
def TX8 : u_T := fun k => match k with
  | 0 => ("CableShip", "sea", "LCableShip$Sea;", true)
  | 1 => ("CableShip", "calendar", "LCableShip$Calendar;", true)
  | 2 => ("CableShip", "hold", "LCableShip$Hold;", true)
  | 3 => ("CableShip", "row", "LCableShip$Row;", true)
  | 4 => ("CableShip", "book", "LCableShip$FaultBook;", true)
  | 5 => ("CableShip", "network", "LCableShip$Network;", true)
  | 6 => ("CableShip", "laidToday", "I", false)
  | 7 => ("CableShip", "isBuoyed", "Z", false)
  | 8 => ("CableShip", "lost", "I", false)
  | 9 => ("CableShip", "waste", "I", false)
  | 10 => ("CableShip", "feedA", "I", false)
  | _ => ("CableShip", "feedB", "I", false)
def tyX8 : Nat → FieldType := fun k => match k with
  | 0 => .object "CableShip$Sea"
  | 1 => .object "CableShip$Calendar"
  | 2 => .object "CableShip$Hold"
  | 3 => .object "CableShip$Row"
  | 4 => .object "CableShip$FaultBook"
  | 5 => .object "CableShip$Network"
  | 6 => .int
  | 7 => .boolean
  | 8 => .int
  | 9 => .int
  | 10 => .int
  | _ => .int
abbrev wsX80 : List Cond := u_ws RX8 TX8 12
theorem nmX8 : ∀ a, a < 12 → ∀ b, b < 12 → a ≠ b → (TX8 a).2.1 ≠ (TX8 b).2.1 := by decide +kernel
theorem tyX8_ok : ∀ k, k < 12 → parseFieldDescriptor (TX8 k).2.2.1 = some (tyX8 k) := by decide +kernel
abbrev cX8_init : ByteArray := prog_1_method_1_code
def yX8_init : MethodName := ⟨RX8, "<init>", "()V"⟩
abbrev cX8_sound : ByteArray := prog_1_method_2_code
def yX8_sound : MethodName := ⟨RX8, "sound", "(III)I"⟩
abbrev cX8_weather : ByteArray := prog_1_method_5_code
def yX8_weather : MethodName := ⟨RX8, "weather", "(I)I"⟩
abbrev cX8_pass : ByteArray := prog_1_method_6_code
def yX8_pass : MethodName := ⟨RX8, "pass", "(I)I"⟩
abbrev cX8_passOneDay : ByteArray := prog_1_method_7_code
def yX8_passOneDay : MethodName := ⟨RX8, "passOneDay", "()V"⟩
abbrev cX8_buoy : ByteArray := prog_1_method_8_code
def yX8_buoy : MethodName := ⟨RX8, "buoy", "()V"⟩
abbrev cX8_make : ByteArray := prog_1_method_9_code
def yX8_make : MethodName := ⟨RX8, "make", "(III)I"⟩
abbrev cX8_lay : ByteArray := prog_1_method_10_code
def yX8_lay : MethodName := ⟨RX8, "lay", "(III)I"⟩
abbrev cX8_layOneCell : ByteArray := prog_1_method_11_code
def yX8_layOneCell : MethodName := ⟨RX8, "layOneCell", "(II)Z"⟩
abbrev cX8_mayGoOn : ByteArray := prog_1_method_12_code
def yX8_mayGoOn : MethodName := ⟨RX8, "mayGoOn", "()Z"⟩
abbrev cX8_putBehind : ByteArray := prog_1_method_13_code
def yX8_putBehind : MethodName := ⟨RX8, "putBehind", "()V"⟩
abbrev cX8_repeater : ByteArray := prog_1_method_14_code
def yX8_repeater : MethodName := ⟨RX8, "repeater", "()I"⟩
abbrev cX8_takeUp : ByteArray := prog_1_method_15_code
def yX8_takeUp : MethodName := ⟨RX8, "takeUp", "(I)I"⟩
abbrev cX8_mend : ByteArray := prog_1_method_20_code
def yX8_mend : MethodName := ⟨RX8, "mend", "(II)I"⟩
abbrev cX8_day : ByteArray := prog_1_method_28_code
def yX8_day : MethodName := ⟨RX8, "day", "()I"⟩
abbrev cX8_waves : ByteArray := prog_1_method_29_code
def yX8_waves : MethodName := ⟨RX8, "waves", "()I"⟩
abbrev cX8_canWork : ByteArray := prog_1_method_30_code
def yX8_canWork : MethodName := ⟨RX8, "canWork", "()Z"⟩
abbrev cX8_cell : ByteArray := prog_1_method_31_code
def yX8_cell : MethodName := ⟨RX8, "cell", "(II)I"⟩
abbrev cX8_tank : ByteArray := prog_1_method_33_code
def yX8_tank : MethodName := ⟨RX8, "tank", "(II)I"⟩
abbrev cX8_line : ByteArray := prog_1_method_34_code
def yX8_line : MethodName := ⟨RX8, "line", "(I)I"⟩
abbrev cX8_thing : ByteArray := prog_1_method_35_code
def yX8_thing : MethodName := ⟨RX8, "thing", "(II)I"⟩
abbrev cX8_metre : ByteArray := prog_1_method_36_code
def yX8_metre : MethodName := ⟨RX8, "metre", "(I)I"⟩
abbrev cX8_metreAnew : ByteArray := prog_1_method_37_code
def yX8_metreAnew : MethodName := ⟨RX8, "metreAnew", "(I)I"⟩
abbrev cX8_isKept : ByteArray := prog_1_method_44_code
def yX8_isKept : MethodName := ⟨RX8, "isKept", "()Z"⟩
abbrev cX8_liesAtB : ByteArray := prog_1_method_45_code
def yX8_liesAtB : MethodName := ⟨RX8, "liesAtB", "()Z"⟩
abbrev cX8_typeAt : ByteArray := prog_1_method_46_code
def yX8_typeAt : MethodName := ⟨RX8, "typeAt", "(I)I"⟩
abbrev cX8_isIn : ByteArray := prog_1_method_50_code
def yX8_isIn : MethodName := ⟨RX8, "isIn", "(III)Z"⟩
abbrev cX8_isCell : ByteArray := prog_1_method_51_code
def yX8_isCell : MethodName := ⟨RX8, "isCell", "(I)Z"⟩
abbrev cX8_isTank : ByteArray := prog_1_method_52_code
def yX8_isTank : MethodName := ⟨RX8, "isTank", "(I)Z"⟩
abbrev cX8_isType : ByteArray := prog_1_method_53_code
def yX8_isType : MethodName := ⟨RX8, "isType", "(I)Z"⟩
abbrev cX8_needArgument : ByteArray := prog_1_method_55_code
def yX8_needArgument : MethodName := ⟨RX8, "needArgument", "(Z)V"⟩
abbrev cX8_needState : ByteArray := prog_1_method_56_code
def yX8_needState : MethodName := ⟨RX8, "needState", "(Z)V"⟩
abbrev cX8_needIndex : ByteArray := prog_1_method_57_code
def yX8_needIndex : MethodName := ⟨RX8, "needIndex", "(II)V"⟩
def RX9 : String := "CableShipModel"
def TX9 : u_T := fun k => match k with
  | _ => ("", "", "", false)
def tyX9 : Nat → FieldType := fun k => match k with
  | _ => .int
abbrev wsX90 : List Cond := u_ws RX9 TX9 0
theorem nmX9 : ∀ a, a < 0 → ∀ b, b < 0 → a ≠ b → (TX9 a).2.1 ≠ (TX9 b).2.1 := by decide +kernel
theorem tyX9_ok : ∀ k, k < 0 → parseFieldDescriptor (TX9 k).2.2.1 = some (tyX9 k) := by decide +kernel
def RJx145de : String := "java/io/Serializable"
def TJx145de : u_T := fun k => match k with
  | _ => ("", "", "", false)
def tyJx145de : Nat → FieldType := fun k => match k with
  | _ => .int
abbrev wsJx145de0 : List Cond := u_ws RJx145de TJx145de 0
theorem nmJx145de : ∀ a, a < 0 → ∀ b, b < 0 → a ≠ b → (TJx145de a).2.1 ≠ (TJx145de b).2.1 := by decide +kernel
theorem tyJx145de_ok : ∀ k, k < 0 → parseFieldDescriptor (TJx145de k).2.2.1 = some (tyJx145de k) := by decide +kernel
def RJx8e188 : String := "java/lang/Cloneable"
def TJx8e188 : u_T := fun k => match k with
  | _ => ("", "", "", false)
def tyJx8e188 : Nat → FieldType := fun k => match k with
  | _ => .int
abbrev wsJx8e1880 : List Cond := u_ws RJx8e188 TJx8e188 0
theorem nmJx8e188 : ∀ a, a < 0 → ∀ b, b < 0 → a ≠ b → (TJx8e188 a).2.1 ≠ (TJx8e188 b).2.1 := by decide +kernel
theorem tyJx8e188_ok : ∀ k, k < 0 → parseFieldDescriptor (TJx8e188 k).2.2.1 = some (tyJx8e188 k) := by decide +kernel
def RJ9 : String := "java/lang/Math"
def TJ9 : u_T := fun k => match k with
  | _ => ("", "", "", false)
def tyJ9 : Nat → FieldType := fun k => match k with
  | _ => .int
abbrev wsJ90 : List Cond := u_ws RJ9 TJ9 0
theorem nmJ9 : ∀ a, a < 0 → ∀ b, b < 0 → a ≠ b → (TJ9 a).2.1 ≠ (TJ9 b).2.1 := by decide +kernel
theorem tyJ9_ok : ∀ k, k < 0 → parseFieldDescriptor (TJ9 k).2.2.1 = some (tyJ9 k) := by decide +kernel
abbrev cJ9_abs_0f7a4 : ByteArray := prog_17_method_59_code
def yJ9_abs_0f7a4 : MethodName := ⟨RJ9, "abs", "(I)I"⟩
abbrev cJ9_min_7cf53 : ByteArray := prog_17_method_69_code
def yJ9_min_7cf53 : MethodName := ⟨RJ9, "min", "(II)I"⟩
def RJ0 : String := "java/lang/String"
def TJ0 : u_T := fun k => match k with
  | _ => ("", "", "", false)
def tyJ0 : Nat → FieldType := fun k => match k with
  | _ => .int
abbrev wsJ00 : List Cond := u_ws RJ0 TJ0 0
theorem nmJ0 : ∀ a, a < 0 → ∀ b, b < 0 → a ≠ b → (TJ0 a).2.1 ≠ (TJ0 b).2.1 := by decide +kernel
theorem tyJ0_ok : ∀ k, k < 0 → parseFieldDescriptor (TJ0 k).2.2.1 = some (tyJ0 k) := by decide +kernel
def RJ10 : String := "java/lang/System"
def TJ10 : u_T := fun k => match k with
  | _ => ("", "", "", false)
def tyJ10 : Nat → FieldType := fun k => match k with
  | _ => .int
abbrev wsJ100 : List Cond := u_ws RJ10 TJ10 0
theorem nmJ10 : ∀ a, a < 0 → ∀ b, b < 0 → a ≠ b → (TJ10 a).2.1 ≠ (TJ10 b).2.1 := by decide +kernel
theorem tyJ10_ok : ∀ k, k < 0 → parseFieldDescriptor (TJ10 k).2.2.1 = some (tyJ10 k) := by decide +kernel
def RJ7 : String := "java/util/Arrays"
def TJ7 : u_T := fun k => match k with
  | _ => ("", "", "", false)
def tyJ7 : Nat → FieldType := fun k => match k with
  | _ => .int
abbrev wsJ70 : List Cond := u_ws RJ7 TJ7 0
theorem nmJ7 : ∀ a, a < 0 → ∀ b, b < 0 → a ≠ b → (TJ7 a).2.1 ≠ (TJ7 b).2.1 := by decide +kernel
theorem tyJ7_ok : ∀ k, k < 0 → parseFieldDescriptor (TJ7 k).2.2.1 = some (tyJ7 k) := by decide +kernel
abbrev cJ7_fill_53178 : ByteArray := prog_22_method_103_code
def yJ7_fill_53178 : MethodName := ⟨RJ7, "fill", "([II)V"⟩
abbrev cJ7_copyOf_59c91 : ByteArray := prog_22_method_123_code
def yJ7_copyOf_59c91 : MethodName := ⟨RJ7, "copyOf", "([II)[I"⟩
def RL : String := "CableShipLaw"
abbrev cL_cell : ByteArray := method_2_code
def yL_cell : MethodName := ⟨RL, "cell", "([II)I"⟩
abbrev cL_low : ByteArray := method_3_code
def yL_low : MethodName := ⟨RL, "low", "(II)I"⟩
abbrev cL_depth : ByteArray := method_4_code
def yL_depth : MethodName := ⟨RL, "depth", "([II)I"⟩
abbrev cL_due : ByteArray := method_5_code
def yL_due : MethodName := ⟨RL, "due", "([III)I"⟩
abbrev cL_works : ByteArray := method_6_code
def yL_works : MethodName := ⟨RL, "works", "([I)Z"⟩
abbrev cL_line : ByteArray := method_7_code
def yL_line : MethodName := ⟨RL, "line", "([I[I)I"⟩
abbrev cL_right : ByteArray := method_8_code
def yL_right : MethodName := ⟨RL, "right", "(LCableShip;[I[I[I)Z"⟩
abbrev cL_mended : ByteArray := method_9_code
def yL_mended : MethodName := ⟨RL, "mended", "(LCableShip;II)I"⟩
abbrev cL_taken : ByteArray := method_10_code
def yL_taken : MethodName := ⟨RL, "taken", "(LCableShip;I)I"⟩
abbrev cL_repeated : ByteArray := method_11_code
def yL_repeated : MethodName := ⟨RL, "repeated", "(LCableShip;)I"⟩
abbrev cL_law : ByteArray := code
def yL_law : MethodName := ⟨RL, "law", "([I)Z"⟩
theorem wsL_law_x0 : ∀ w ∈ (vx_atS RX8 373 "java/lang/IllegalArgumentException" ["java/lang/RuntimeException", "java/lang/Exception"]).filter goodWord, w ∈ lw_tbl := by decide +kernel
theorem wsL_law_x1 : ∀ w ∈ (vx_atS RX8 380 "java/lang/IllegalStateException" ["java/lang/RuntimeException", "java/lang/Exception"]).filter goodWord, w ∈ lw_tbl := by decide +kernel
theorem wsL_law_x2 : ∀ w ∈ (vx_atS RX8 385 "java/lang/IndexOutOfBoundsException" ["java/lang/RuntimeException", "java/lang/Exception"]).filter goodWord, w ∈ lw_tbl := by decide +kernel
abbrev vwCl : List vw_C := [(RX0, TX0, 3), (RX1, TX1, 1), (RX2, TX2, 1), (RX3, TX3, 5), (RX4, TX4, 3), (RX5, TX5, 5), (RX6, TX6, 4), (RX7, TX7, 2), (RX8, TX8, 12)]
