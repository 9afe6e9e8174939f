def RX0 : String := "StormBasin$Basin"
def TX0 : u_T := fun k => match k with
  | 0 => ("StormBasin$Basin", "area", "I", true)
  | 1 => ("StormBasin$Basin", "depth", "I", true)
  | 2 => ("StormBasin$Basin", "width", "I", true)
  | 3 => ("StormBasin$Basin", "below", "I", true)
  | 4 => ("StormBasin$Basin", "street", "LStormBasin$Street;", true)
  | 5 => ("StormBasin$Basin", "rainIn", "[I", true)
  | 6 => ("StormBasin$Basin", "hand", "I", false)
  | _ => ("StormBasin$Basin", "rain", "I", false)
def tyX0 : Nat → FieldType := fun k => match k with
  | 0 => .int
  | 1 => .int
  | 2 => .int
  | 3 => .int
  | 4 => .object "StormBasin$Street"
  | 5 => .array .int
  | 6 => .int
  | _ => .int
abbrev wsX00 : List Cond := u_ws RX0 TX0 8
theorem nmX0 : ∀ a, a < 8 → ∀ b, b < 8 → a ≠ b → (TX0 a).2.1 ≠ (TX0 b).2.1 := by decide +kernel
theorem tyX0_ok : ∀ k, k < 8 → parseFieldDescriptor (TX0 k).2.2.1 = some (tyX0 k) := by decide +kernel
abbrev cX0_init : ByteArray := prog_2_method_1_code
def yX0_init : MethodName := ⟨RX0, "<init>", "(IIIII)V"⟩
abbrev cX0_capacity : ByteArray := prog_2_method_2_code
def yX0_capacity : MethodName := ⟨RX0, "capacity", "()I"⟩
def RX1 : String := "StormBasin$House"
def TX1 : u_T := fun k => match k with
  | 0 => ("StormBasin$House", "street", "LStormBasin$Street;", true)
  | 1 => ("StormBasin$House", "cell", "I", true)
  | 2 => ("StormBasin$House", "rate", "I", true)
  | 3 => ("StormBasin$House", "cover", "I", true)
  | 4 => ("StormBasin$House", "isClaimed", "[Z", true)
  | 5 => ("StormBasin$House", "claims", "I", false)
  | _ => ("StormBasin$House", "paid", "I", false)
def tyX1 : Nat → FieldType := fun k => match k with
  | 0 => .object "StormBasin$Street"
  | 1 => .int
  | 2 => .int
  | 3 => .int
  | 4 => .array .boolean
  | 5 => .int
  | _ => .int
abbrev wsX10 : List Cond := u_ws RX1 TX1 7
theorem nmX1 : ∀ a, a < 7 → ∀ b, b < 7 → a ≠ b → (TX1 a).2.1 ≠ (TX1 b).2.1 := by decide +kernel
theorem tyX1_ok : ∀ k, k < 7 → parseFieldDescriptor (TX1 k).2.2.1 = some (tyX1 k) := by decide +kernel
abbrev cX1_init : ByteArray := prog_3_method_1_code
def yX1_init : MethodName := ⟨RX1, "<init>", "(LStormBasin$Street;III)V"⟩
abbrev cX1_isWetAt : ByteArray := prog_3_method_2_code
def yX1_isWetAt : MethodName := ⟨RX1, "isWetAt", "(I)Z"⟩
abbrev cX1_worthAt : ByteArray := prog_3_method_3_code
def yX1_worthAt : MethodName := ⟨RX1, "worthAt", "(I)I"⟩
abbrev cX1_worstHour : ByteArray := prog_3_method_4_code
def yX1_worstHour : MethodName := ⟨RX1, "worstHour", "(I)I"⟩
abbrev cX1_pay : ByteArray := prog_3_method_5_code
def yX1_pay : MethodName := ⟨RX1, "pay", "(I)I"⟩
def RX2 : String := "StormBasin$Rule"
def TX2 : u_T := fun k => match k with
  | 0 => ("StormBasin$Rule", "basin", "I", true)
  | 1 => ("StormBasin$Rule", "observed", "I", true)
  | 2 => ("StormBasin$Rule", "isFrom", "Z", true)
  | 3 => ("StormBasin$Rule", "level", "I", true)
  | _ => ("StormBasin$Rule", "opening", "I", true)
def tyX2 : Nat → FieldType := fun k => match k with
  | 0 => .int
  | 1 => .int
  | 2 => .boolean
  | 3 => .int
  | _ => .int
abbrev wsX20 : List Cond := u_ws RX2 TX2 5
theorem nmX2 : ∀ a, a < 5 → ∀ b, b < 5 → a ≠ b → (TX2 a).2.1 ≠ (TX2 b).2.1 := by decide +kernel
theorem tyX2_ok : ∀ k, k < 5 → parseFieldDescriptor (TX2 k).2.2.1 = some (tyX2 k) := by decide +kernel
abbrev cX2_init : ByteArray := prog_4_method_1_code
def yX2_init : MethodName := ⟨RX2, "<init>", "(IIZII)V"⟩
def RX3 : String := "StormBasin$Street"
def TX3 : u_T := fun k => match k with
  | 0 => ("StormBasin$Street", "heights", "[I", true)
  | 1 => ("StormBasin$Street", "dryUpTo", "[I", true)
  | 2 => ("StormBasin$Street", "poured", "[I", true)
  | 3 => ("StormBasin$Street", "volumeAtEnd", "[I", true)
  | _ => ("StormBasin$Street", "cells", "I", false)
def tyX3 : Nat → FieldType := fun k => match k with
  | 0 => .array .int
  | 1 => .array .int
  | 2 => .array .int
  | 3 => .array .int
  | _ => .int
abbrev wsX30 : List Cond := u_ws RX3 TX3 5
theorem nmX3 : ∀ a, a < 5 → ∀ b, b < 5 → a ≠ b → (TX3 a).2.1 ≠ (TX3 b).2.1 := by decide +kernel
theorem tyX3_ok : ∀ k, k < 5 → parseFieldDescriptor (TX3 k).2.2.1 = some (tyX3 k) := by decide +kernel
abbrev cX3_init : ByteArray := prog_5_method_1_code
def yX3_init : MethodName := ⟨RX3, "<init>", "(I)V"⟩
abbrev cX3_append : ByteArray := prog_5_method_2_code
def yX3_append : MethodName := ⟨RX3, "append", "(I)V"⟩
abbrev cX3_volumeBefore : ByteArray := prog_5_method_3_code
def yX3_volumeBefore : MethodName := ⟨RX3, "volumeBefore", "(I)I"⟩
abbrev cX3_isWet : ByteArray := prog_5_method_4_code
def yX3_isWet : MethodName := ⟨RX3, "isWet", "(II)Z"⟩
abbrev cX3_countWet : ByteArray := prog_5_method_5_code
def yX3_countWet : MethodName := ⟨RX3, "countWet", "(I)I"⟩
abbrev cX3_depthOf : ByteArray := prog_5_method_6_code
def yX3_depthOf : MethodName := ⟨RX3, "depthOf", "(II)I"⟩
abbrev cX3_cellsUpTo : ByteArray := prog_5_method_7_code
def yX3_cellsUpTo : MethodName := ⟨RX3, "cellsUpTo", "(I)I"⟩
abbrev cX3_cellsAhead : ByteArray := prog_5_method_8_code
def yX3_cellsAhead : MethodName := ⟨RX3, "cellsAhead", "(II)I"⟩
abbrev cX3_depthPoured : ByteArray := prog_5_method_9_code
def yX3_depthPoured : MethodName := ⟨RX3, "depthPoured", "(II)I"⟩
abbrev cX3_lowestCell : ByteArray := prog_5_method_10_code
def yX3_lowestCell : MethodName := ⟨RX3, "lowestCell", "()I"⟩
def RX4 : String := "StormBasin$Water"
def TX4 : u_T := fun k => match k with
  | 0 => ("StormBasin$Water", "inBasin", "[I", true)
  | 1 => ("StormBasin$Water", "onStreet", "[I", true)
  | 2 => ("StormBasin$Water", "leaving", "[I", true)
  | _ => ("StormBasin$Water", "inRiver", "I", false)
def tyX4 : Nat → FieldType := fun k => match k with
  | 0 => .array .int
  | 1 => .array .int
  | 2 => .array .int
  | _ => .int
abbrev wsX40 : List Cond := u_ws RX4 TX4 4
theorem nmX4 : ∀ a, a < 4 → ∀ b, b < 4 → a ≠ b → (TX4 a).2.1 ≠ (TX4 b).2.1 := by decide +kernel
theorem tyX4_ok : ∀ k, k < 4 → parseFieldDescriptor (TX4 k).2.2.1 = some (tyX4 k) := by decide +kernel
abbrev cX4_init : ByteArray := prog_6_method_1_code
def yX4_init : MethodName := ⟨RX4, "<init>", "()V"⟩
abbrev cX4_clear : ByteArray := prog_6_method_2_code
def yX4_clear : MethodName := ⟨RX4, "clear", "()V"⟩
abbrev cX4_held : ByteArray := prog_6_method_3_code
def yX4_held : MethodName := ⟨RX4, "held", "()I"⟩
abbrev cX4_runThroughGate : ByteArray := prog_6_method_4_code
def yX4_runThroughGate : MethodName := ⟨RX4, "runThroughGate", "(II)V"⟩
abbrev cX4_settle : ByteArray := prog_6_method_5_code
def yX4_settle : MethodName := ⟨RX4, "settle", "(II)V"⟩
def RX5 : String := "StormBasin"
def TX5 : u_T := fun k => match k with
  | 0 => ("StormBasin", "basins", "Ljava/util/ArrayList;", true)
  | 1 => ("StormBasin", "rules", "Ljava/util/ArrayList;", true)
  | 2 => ("StormBasin", "houses", "Ljava/util/ArrayList;", true)
  | 3 => ("StormBasin", "present", "LStormBasin$Water;", true)
  | 4 => ("StormBasin", "trial", "LStormBasin$Water;", true)
  | 5 => ("StormBasin", "line", "Ljava/lang/StringBuilder;", true)
  | 6 => ("StormBasin", "clock", "I", false)
  | 7 => ("StormBasin", "rainSoFar", "I", false)
  | _ => ("StormBasin", "wetSoFar", "I", false)
def tyX5 : Nat → FieldType := fun k => match k with
  | 0 => .object "java/util/ArrayList"
  | 1 => .object "java/util/ArrayList"
  | 2 => .object "java/util/ArrayList"
  | 3 => .object "StormBasin$Water"
  | 4 => .object "StormBasin$Water"
  | 5 => .object "java/lang/StringBuilder"
  | 6 => .int
  | 7 => .int
  | _ => .int
abbrev wsX50 : List Cond := u_ws RX5 TX5 9
theorem nmX5 : ∀ a, a < 9 → ∀ b, b < 9 → a ≠ b → (TX5 a).2.1 ≠ (TX5 b).2.1 := by decide +kernel
theorem tyX5_ok : ∀ k, k < 9 → parseFieldDescriptor (TX5 k).2.2.1 = some (tyX5 k) := by decide +kernel
abbrev cX5_init : ByteArray := prog_1_method_1_code
def yX5_init : MethodName := ⟨RX5, "<init>", "()V"⟩
abbrev cX5_addBasin : ByteArray := prog_1_method_2_code
def yX5_addBasin : MethodName := ⟨RX5, "addBasin", "(IIIII)I"⟩
abbrev cX5_addCell : ByteArray := prog_1_method_3_code
def yX5_addCell : MethodName := ⟨RX5, "addCell", "(II)I"⟩
abbrev cX5_basinCount : ByteArray := prog_1_method_4_code
def yX5_basinCount : MethodName := ⟨RX5, "basinCount", "()I"⟩
abbrev cX5_cellCount : ByteArray := prog_1_method_5_code
def yX5_cellCount : MethodName := ⟨RX5, "cellCount", "(I)I"⟩
abbrev cX5_capacityOf : ByteArray := prog_1_method_6_code
def yX5_capacityOf : MethodName := ⟨RX5, "capacityOf", "(I)I"⟩
abbrev cX5_setHand : ByteArray := prog_1_method_7_code
def yX5_setHand : MethodName := ⟨RX5, "setHand", "(II)I"⟩
abbrev cX5_addRule : ByteArray := prog_1_method_8_code
def yX5_addRule : MethodName := ⟨RX5, "addRule", "(IIZII)I"⟩
abbrev cX5_removeRule : ByteArray := prog_1_method_9_code
def yX5_removeRule : MethodName := ⟨RX5, "removeRule", "(I)I"⟩
abbrev cX5_ruleCount : ByteArray := prog_1_method_10_code
def yX5_ruleCount : MethodName := ⟨RX5, "ruleCount", "()I"⟩
abbrev cX5_doesHold : ByteArray := prog_1_method_11_code
def yX5_doesHold : MethodName := ⟨RX5, "doesHold", "(I)Z"⟩
abbrev cX5_openingNow : ByteArray := prog_1_method_12_code
def yX5_openingNow : MethodName := ⟨RX5, "openingNow", "(I)I"⟩
abbrev cX5_setRain : ByteArray := prog_1_method_13_code
def yX5_setRain : MethodName := ⟨RX5, "setRain", "(II)I"⟩
abbrev cX5_pass : ByteArray := prog_1_method_14_code
def yX5_pass : MethodName := ⟨RX5, "pass", "(I)I"⟩
abbrev cX5_clock : ByteArray := prog_1_method_15_code
def yX5_clock : MethodName := ⟨RX5, "clock", "()I"⟩
abbrev cX5_volumeOf : ByteArray := prog_1_method_16_code
def yX5_volumeOf : MethodName := ⟨RX5, "volumeOf", "(I)I"⟩
abbrev cX5_levelOf : ByteArray := prog_1_method_17_code
def yX5_levelOf : MethodName := ⟨RX5, "levelOf", "(I)I"⟩
abbrev cX5_streetVolume : ByteArray := prog_1_method_18_code
def yX5_streetVolume : MethodName := ⟨RX5, "streetVolume", "(I)I"⟩
abbrev cX5_rainTotal : ByteArray := prog_1_method_19_code
def yX5_rainTotal : MethodName := ⟨RX5, "rainTotal", "()I"⟩
abbrev cX5_riverTotal : ByteArray := prog_1_method_20_code
def yX5_riverTotal : MethodName := ⟨RX5, "riverTotal", "()I"⟩
abbrev cX5_heldTotal : ByteArray := prog_1_method_21_code
def yX5_heldTotal : MethodName := ⟨RX5, "heldTotal", "()I"⟩
abbrev cX5_isBalanced : ByteArray := prog_1_method_22_code
def yX5_isBalanced : MethodName := ⟨RX5, "isBalanced", "()Z"⟩
abbrev cX5_depthAt : ByteArray := prog_1_method_23_code
def yX5_depthAt : MethodName := ⟨RX5, "depthAt", "(II)I"⟩
abbrev cX5_depthByPouring : ByteArray := prog_1_method_24_code
def yX5_depthByPouring : MethodName := ⟨RX5, "depthByPouring", "(II)I"⟩
abbrev cX5_depthThen : ByteArray := prog_1_method_25_code
def yX5_depthThen : MethodName := ⟨RX5, "depthThen", "(III)I"⟩
abbrev cX5_wetCells : ByteArray := prog_1_method_26_code
def yX5_wetCells : MethodName := ⟨RX5, "wetCells", "(I)I"⟩
abbrev cX5_wetHours : ByteArray := prog_1_method_27_code
def yX5_wetHours : MethodName := ⟨RX5, "wetHours", "(II)I"⟩
abbrev cX5_floodedSoFar : ByteArray := prog_1_method_28_code
def yX5_floodedSoFar : MethodName := ⟨RX5, "floodedSoFar", "()I"⟩
abbrev cX5_addHouse : ByteArray := prog_1_method_29_code
def yX5_addHouse : MethodName := ⟨RX5, "addHouse", "(IIII)I"⟩
abbrev cX5_houseCount : ByteArray := prog_1_method_30_code
def yX5_houseCount : MethodName := ⟨RX5, "houseCount", "()I"⟩
abbrev cX5_wasWet : ByteArray := prog_1_method_31_code
def yX5_wasWet : MethodName := ⟨RX5, "wasWet", "(II)Z"⟩
abbrev cX5_worthOf : ByteArray := prog_1_method_32_code
def yX5_worthOf : MethodName := ⟨RX5, "worthOf", "(II)I"⟩
abbrev cX5_claim : ByteArray := prog_1_method_33_code
def yX5_claim : MethodName := ⟨RX5, "claim", "(II)I"⟩
abbrev cX5_claimWorst : ByteArray := prog_1_method_34_code
def yX5_claimWorst : MethodName := ⟨RX5, "claimWorst", "(I)I"⟩
abbrev cX5_claimCount : ByteArray := prog_1_method_35_code
def yX5_claimCount : MethodName := ⟨RX5, "claimCount", "(I)I"⟩
abbrev cX5_paidTo : ByteArray := prog_1_method_36_code
def yX5_paidTo : MethodName := ⟨RX5, "paidTo", "(I)I"⟩
abbrev cX5_paidTotal : ByteArray := prog_1_method_37_code
def yX5_paidTotal : MethodName := ⟨RX5, "paidTotal", "()J"⟩
abbrev cX5_meanPayment : ByteArray := prog_1_method_38_code
def yX5_meanPayment : MethodName := ⟨RX5, "meanPayment", "()D"⟩
abbrev cX5_floodedWith : ByteArray := prog_1_method_39_code
def yX5_floodedWith : MethodName := ⟨RX5, "floodedWith", "()I"⟩
abbrev cX5_floodedWithOpening : ByteArray := prog_1_method_40_code
def yX5_floodedWithOpening : MethodName := ⟨RX5, "floodedWithOpening", "(II)I"⟩
abbrev cX5_bestOpening : ByteArray := prog_1_method_41_code
def yX5_bestOpening : MethodName := ⟨RX5, "bestOpening", "(I)I"⟩
abbrev cX5_writeRule : ByteArray := prog_1_method_42_code
def yX5_writeRule : MethodName := ⟨RX5, "writeRule", "(I)I"⟩
abbrev cX5_lineAt : ByteArray := prog_1_method_43_code
def yX5_lineAt : MethodName := ⟨RX5, "lineAt", "(I)C"⟩
abbrev cX5_isWithin : ByteArray := prog_1_method_44_code
def yX5_isWithin : MethodName := ⟨RX5, "isWithin", "(III)Z"⟩
abbrev cX5_requireHeight : ByteArray := prog_1_method_45_code
def yX5_requireHeight : MethodName := ⟨RX5, "requireHeight", "(I)V"⟩
abbrev cX5_requireOpening : ByteArray := prog_1_method_46_code
def yX5_requireOpening : MethodName := ⟨RX5, "requireOpening", "(I)V"⟩
abbrev cX5_requireBeforeFirstHour : ByteArray := prog_1_method_47_code
def yX5_requireBeforeFirstHour : MethodName := ⟨RX5, "requireBeforeFirstHour", "()V"⟩
abbrev cX5_requireHour : ByteArray := prog_1_method_48_code
def yX5_requireHour : MethodName := ⟨RX5, "requireHour", "(I)V"⟩
abbrev cX5_requireBasin : ByteArray := prog_1_method_49_code
def yX5_requireBasin : MethodName := ⟨RX5, "requireBasin", "(I)V"⟩
abbrev cX5_requireRule : ByteArray := prog_1_method_50_code
def yX5_requireRule : MethodName := ⟨RX5, "requireRule", "(I)V"⟩
abbrev cX5_basinOf : ByteArray := prog_1_method_51_code
def yX5_basinOf : MethodName := ⟨RX5, "basinOf", "(I)LStormBasin$Basin;"⟩
abbrev cX5_streetWith : ByteArray := prog_1_method_52_code
def yX5_streetWith : MethodName := ⟨RX5, "streetWith", "(II)LStormBasin$Street;"⟩
abbrev cX5_houseOf : ByteArray := prog_1_method_53_code
def yX5_houseOf : MethodName := ⟨RX5, "houseOf", "(I)LStormBasin$House;"⟩
abbrev cX5_passOneHour : ByteArray := prog_1_method_54_code
def yX5_passOneHour : MethodName := ⟨RX5, "passOneHour", "()V"⟩
abbrev cX5_tryPastRain : ByteArray := prog_1_method_55_code
def yX5_tryPastRain : MethodName := ⟨RX5, "tryPastRain", "(II)I"⟩
abbrev cX5_moveWater : ByteArray := prog_1_method_56_code
def yX5_moveWater : MethodName := ⟨RX5, "moveWater", "(LStormBasin$Water;III)V"⟩
abbrev cX5_openingBy : ByteArray := prog_1_method_57_code
def yX5_openingBy : MethodName := ⟨RX5, "openingBy", "(LStormBasin$Water;I)I"⟩
abbrev cX5_holdsBy : ByteArray := prog_1_method_58_code
def yX5_holdsBy : MethodName := ⟨RX5, "holdsBy", "(LStormBasin$Water;LStormBasin$Rule;)Z"⟩
abbrev cX5_levelBy : ByteArray := prog_1_method_59_code
def yX5_levelBy : MethodName := ⟨RX5, "levelBy", "(LStormBasin$Water;I)I"⟩
abbrev cX5_wetCellsBy : ByteArray := prog_1_method_60_code
def yX5_wetCellsBy : MethodName := ⟨RX5, "wetCellsBy", "(LStormBasin$Water;)I"⟩
def RX6 : String := "StormBasinModel"
def TX6 : u_T := fun k => match k with
  | 0 => ("StormBasinModel", "basins", "I", false)
  | 1 => ("StormBasinModel", "areas", "[I", true)
  | 2 => ("StormBasinModel", "depths", "[I", true)
  | 3 => ("StormBasinModel", "widths", "[I", true)
  | 4 => ("StormBasinModel", "belows", "[I", true)
  | 5 => ("StormBasinModel", "hands", "[I", true)
  | 6 => ("StormBasinModel", "rains", "[I", true)
  | 7 => ("StormBasinModel", "cells", "[I", true)
  | 8 => ("StormBasinModel", "heights", "[I", true)
  | 9 => ("StormBasinModel", "volumes", "[I", true)
  | 10 => ("StormBasinModel", "streets", "[I", true)
  | 11 => ("StormBasinModel", "tryVolumes", "[I", true)
  | 12 => ("StormBasinModel", "tryStreets", "[I", true)
  | 13 => ("StormBasinModel", "outs", "[I", true)
  | 14 => ("StormBasinModel", "rules", "I", false)
  | 15 => ("StormBasinModel", "gates", "[I", true)
  | 16 => ("StormBasinModel", "observed", "[I", true)
  | 17 => ("StormBasinModel", "areFrom", "[Z", true)
  | 18 => ("StormBasinModel", "levels", "[I", true)
  | 19 => ("StormBasinModel", "openings", "[I", true)
  | 20 => ("StormBasinModel", "clock", "I", false)
  | 21 => ("StormBasinModel", "fallen", "I", false)
  | 22 => ("StormBasinModel", "river", "I", false)
  | 23 => ("StormBasinModel", "rainThen", "[I", true)
  | 24 => ("StormBasinModel", "streetThen", "[I", true)
  | 25 => ("StormBasinModel", "houses", "I", false)
  | 26 => ("StormBasinModel", "houseBasins", "[I", true)
  | 27 => ("StormBasinModel", "houseCells", "[I", true)
  | 28 => ("StormBasinModel", "rates", "[I", true)
  | 29 => ("StormBasinModel", "covers", "[I", true)
  | 30 => ("StormBasinModel", "paid", "[I", true)
  | 31 => ("StormBasinModel", "areClaimed", "[Z", true)
  | 32 => ("StormBasinModel", "claims", "I", false)
  | 33 => ("StormBasinModel", "fixedBasin", "I", false)
  | 34 => ("StormBasinModel", "fixedOpening", "I", false)
  | 35 => ("StormBasinModel", "line", "[C", true)
  | 36 => ("StormBasinModel", "length", "I", false)
  | _ => ("StormBasinModel", "code", "I", false)
def tyX6 : Nat → FieldType := fun k => match k with
  | 0 => .int
  | 1 => .array .int
  | 2 => .array .int
  | 3 => .array .int
  | 4 => .array .int
  | 5 => .array .int
  | 6 => .array .int
  | 7 => .array .int
  | 8 => .array .int
  | 9 => .array .int
  | 10 => .array .int
  | 11 => .array .int
  | 12 => .array .int
  | 13 => .array .int
  | 14 => .int
  | 15 => .array .int
  | 16 => .array .int
  | 17 => .array .boolean
  | 18 => .array .int
  | 19 => .array .int
  | 20 => .int
  | 21 => .int
  | 22 => .int
  | 23 => .array .int
  | 24 => .array .int
  | 25 => .int
  | 26 => .array .int
  | 27 => .array .int
  | 28 => .array .int
  | 29 => .array .int
  | 30 => .array .int
  | 31 => .array .boolean
  | 32 => .int
  | 33 => .int
  | 34 => .int
  | 35 => .array .char
  | 36 => .int
  | _ => .int
abbrev wsX60 : List Cond := u_ws RX6 TX6 38
theorem nmX6 : ∀ a, a < 38 → ∀ b, b < 38 → a ≠ b → (TX6 a).2.1 ≠ (TX6 b).2.1 := by decide +kernel
theorem tyX6_ok : ∀ k, k < 38 → parseFieldDescriptor (TX6 k).2.2.1 = some (tyX6 k) := by decide +kernel
abbrev cX6_init : ByteArray := prog_8_method_1_code
def yX6_init : MethodName := ⟨RX6, "<init>", "()V"⟩
abbrev cX6_thrown : ByteArray := prog_8_method_2_code
def yX6_thrown : MethodName := ⟨RX6, "thrown", "()I"⟩
abbrev cX6_fails : ByteArray := prog_8_method_3_code
def yX6_fails : MethodName := ⟨RX6, "fails", "(I)Z"⟩
abbrev cX6_tells : ByteArray := prog_8_method_4_code
def yX6_tells : MethodName := ⟨RX6, "tells", "(I)I"⟩
abbrev cX6_in : ByteArray := prog_8_method_5_code
def yX6_in : MethodName := ⟨RX6, "in", "(III)Z"⟩
abbrev cX6_lesser : ByteArray := prog_8_method_6_code
def yX6_lesser : MethodName := ⟨RX6, "lesser", "(II)I"⟩
abbrev cX6_isNone : ByteArray := prog_8_method_7_code
def yX6_isNone : MethodName := ⟨RX6, "isNone", "(I)Z"⟩
abbrev cX6_isNoCell : ByteArray := prog_8_method_8_code
def yX6_isNoCell : MethodName := ⟨RX6, "isNoCell", "(II)Z"⟩
abbrev cX6_isNoRule : ByteArray := prog_8_method_9_code
def yX6_isNoRule : MethodName := ⟨RX6, "isNoRule", "(I)Z"⟩
abbrev cX6_isNoHouse : ByteArray := prog_8_method_10_code
def yX6_isNoHouse : MethodName := ⟨RX6, "isNoHouse", "(I)Z"⟩
abbrev cX6_addBasin : ByteArray := prog_8_method_11_code
def yX6_addBasin : MethodName := ⟨RX6, "addBasin", "(IIIII)I"⟩
abbrev cX6_addCell : ByteArray := prog_8_method_12_code
def yX6_addCell : MethodName := ⟨RX6, "addCell", "(II)I"⟩
abbrev cX6_basinCount : ByteArray := prog_8_method_13_code
def yX6_basinCount : MethodName := ⟨RX6, "basinCount", "()I"⟩
abbrev cX6_cellCount : ByteArray := prog_8_method_14_code
def yX6_cellCount : MethodName := ⟨RX6, "cellCount", "(I)I"⟩
abbrev cX6_holds : ByteArray := prog_8_method_15_code
def yX6_holds : MethodName := ⟨RX6, "holds", "(I)I"⟩
abbrev cX6_capacityOf : ByteArray := prog_8_method_16_code
def yX6_capacityOf : MethodName := ⟨RX6, "capacityOf", "(I)I"⟩
abbrev cX6_setHand : ByteArray := prog_8_method_17_code
def yX6_setHand : MethodName := ⟨RX6, "setHand", "(II)I"⟩
abbrev cX6_addRule : ByteArray := prog_8_method_18_code
def yX6_addRule : MethodName := ⟨RX6, "addRule", "(IIZII)I"⟩
abbrev cX6_removeRule : ByteArray := prog_8_method_19_code
def yX6_removeRule : MethodName := ⟨RX6, "removeRule", "(I)I"⟩
abbrev cX6_ruleCount : ByteArray := prog_8_method_20_code
def yX6_ruleCount : MethodName := ⟨RX6, "ruleCount", "()I"⟩
abbrev cX6_isTrue : ByteArray := prog_8_method_21_code
def yX6_isTrue : MethodName := ⟨RX6, "isTrue", "(I[I)Z"⟩
abbrev cX6_doesHold : ByteArray := prog_8_method_22_code
def yX6_doesHold : MethodName := ⟨RX6, "doesHold", "(I)Z"⟩
abbrev cX6_opening : ByteArray := prog_8_method_23_code
def yX6_opening : MethodName := ⟨RX6, "opening", "(I[I)I"⟩
abbrev cX6_openingNow : ByteArray := prog_8_method_24_code
def yX6_openingNow : MethodName := ⟨RX6, "openingNow", "(I)I"⟩
abbrev cX6_setRain : ByteArray := prog_8_method_25_code
def yX6_setRain : MethodName := ⟨RX6, "setRain", "(II)I"⟩
abbrev cX6_flows : ByteArray := prog_8_method_26_code
def yX6_flows : MethodName := ⟨RX6, "flows", "([I[I)I"⟩
abbrev cX6_pass : ByteArray := prog_8_method_27_code
def yX6_pass : MethodName := ⟨RX6, "pass", "(I)I"⟩
abbrev cX6_clock : ByteArray := prog_8_method_28_code
def yX6_clock : MethodName := ⟨RX6, "clock", "()I"⟩
abbrev cX6_volumeOf : ByteArray := prog_8_method_29_code
def yX6_volumeOf : MethodName := ⟨RX6, "volumeOf", "(I)I"⟩
abbrev cX6_levelOf : ByteArray := prog_8_method_30_code
def yX6_levelOf : MethodName := ⟨RX6, "levelOf", "(I)I"⟩
abbrev cX6_streetVolume : ByteArray := prog_8_method_31_code
def yX6_streetVolume : MethodName := ⟨RX6, "streetVolume", "(I)I"⟩
abbrev cX6_rainTotal : ByteArray := prog_8_method_32_code
def yX6_rainTotal : MethodName := ⟨RX6, "rainTotal", "()I"⟩
abbrev cX6_riverTotal : ByteArray := prog_8_method_33_code
def yX6_riverTotal : MethodName := ⟨RX6, "riverTotal", "()I"⟩
abbrev cX6_held : ByteArray := prog_8_method_34_code
def yX6_held : MethodName := ⟨RX6, "held", "()I"⟩
abbrev cX6_heldTotal : ByteArray := prog_8_method_35_code
def yX6_heldTotal : MethodName := ⟨RX6, "heldTotal", "()I"⟩
abbrev cX6_isBalanced : ByteArray := prog_8_method_36_code
def yX6_isBalanced : MethodName := ⟨RX6, "isBalanced", "()Z"⟩
abbrev cX6_upTo : ByteArray := prog_8_method_37_code
def yX6_upTo : MethodName := ⟨RX6, "upTo", "(II)I"⟩
abbrev cX6_heightOf : ByteArray := prog_8_method_38_code
def yX6_heightOf : MethodName := ⟨RX6, "heightOf", "(II)I"⟩
abbrev cX6_depth : ByteArray := prog_8_method_39_code
def yX6_depth : MethodName := ⟨RX6, "depth", "(III)I"⟩
abbrev cX6_deep : ByteArray := prog_8_method_40_code
def yX6_deep : MethodName := ⟨RX6, "deep", "(II)I"⟩
abbrev cX6_depthAt : ByteArray := prog_8_method_41_code
def yX6_depthAt : MethodName := ⟨RX6, "depthAt", "(II)I"⟩
abbrev cX6_depthByPouring : ByteArray := prog_8_method_42_code
def yX6_depthByPouring : MethodName := ⟨RX6, "depthByPouring", "(II)I"⟩
abbrev cX6_then : ByteArray := prog_8_method_43_code
def yX6_then : MethodName := ⟨RX6, "then", "(III)I"⟩
abbrev cX6_depthThen : ByteArray := prog_8_method_44_code
def yX6_depthThen : MethodName := ⟨RX6, "depthThen", "(III)I"⟩
abbrev cX6_wet : ByteArray := prog_8_method_45_code
def yX6_wet : MethodName := ⟨RX6, "wet", "(II)I"⟩
abbrev cX6_wetCells : ByteArray := prog_8_method_46_code
def yX6_wetCells : MethodName := ⟨RX6, "wetCells", "(I)I"⟩
abbrev cX6_wetHours : ByteArray := prog_8_method_47_code
def yX6_wetHours : MethodName := ⟨RX6, "wetHours", "(II)I"⟩
abbrev cX6_floodedSoFar : ByteArray := prog_8_method_48_code
def yX6_floodedSoFar : MethodName := ⟨RX6, "floodedSoFar", "()I"⟩
abbrev cX6_addHouse : ByteArray := prog_8_method_49_code
def yX6_addHouse : MethodName := ⟨RX6, "addHouse", "(IIII)I"⟩
abbrev cX6_houseCount : ByteArray := prog_8_method_50_code
def yX6_houseCount : MethodName := ⟨RX6, "houseCount", "()I"⟩
abbrev cX6_isNoHour : ByteArray := prog_8_method_51_code
def yX6_isNoHour : MethodName := ⟨RX6, "isNoHour", "(II)Z"⟩
abbrev cX6_worth : ByteArray := prog_8_method_52_code
def yX6_worth : MethodName := ⟨RX6, "worth", "(II)I"⟩
abbrev cX6_wasWet : ByteArray := prog_8_method_53_code
def yX6_wasWet : MethodName := ⟨RX6, "wasWet", "(II)Z"⟩
abbrev cX6_worthOf : ByteArray := prog_8_method_54_code
def yX6_worthOf : MethodName := ⟨RX6, "worthOf", "(II)I"⟩
abbrev cX6_pays : ByteArray := prog_8_method_55_code
def yX6_pays : MethodName := ⟨RX6, "pays", "(II)I"⟩
abbrev cX6_claim : ByteArray := prog_8_method_56_code
def yX6_claim : MethodName := ⟨RX6, "claim", "(II)I"⟩
abbrev cX6_claimWorst : ByteArray := prog_8_method_57_code
def yX6_claimWorst : MethodName := ⟨RX6, "claimWorst", "(I)I"⟩
abbrev cX6_claimCount : ByteArray := prog_8_method_58_code
def yX6_claimCount : MethodName := ⟨RX6, "claimCount", "(I)I"⟩
abbrev cX6_paidTo : ByteArray := prog_8_method_59_code
def yX6_paidTo : MethodName := ⟨RX6, "paidTo", "(I)I"⟩
abbrev cX6_allPaid : ByteArray := prog_8_method_60_code
def yX6_allPaid : MethodName := ⟨RX6, "allPaid", "()J"⟩
abbrev cX6_paidTotal : ByteArray := prog_8_method_61_code
def yX6_paidTotal : MethodName := ⟨RX6, "paidTotal", "()J"⟩
abbrev cX6_meanPayment : ByteArray := prog_8_method_62_code
def yX6_meanPayment : MethodName := ⟨RX6, "meanPayment", "()D"⟩
abbrev cX6_trial : ByteArray := prog_8_method_63_code
def yX6_trial : MethodName := ⟨RX6, "trial", "(II)I"⟩
abbrev cX6_floodedWith : ByteArray := prog_8_method_64_code
def yX6_floodedWith : MethodName := ⟨RX6, "floodedWith", "()I"⟩
abbrev cX6_floodedWithOpening : ByteArray := prog_8_method_65_code
def yX6_floodedWithOpening : MethodName := ⟨RX6, "floodedWithOpening", "(II)I"⟩
abbrev cX6_bestOpening : ByteArray := prog_8_method_66_code
def yX6_bestOpening : MethodName := ⟨RX6, "bestOpening", "(I)I"⟩
abbrev cX6_puts : ByteArray := prog_8_method_67_code
def yX6_puts : MethodName := ⟨RX6, "puts", "(C)V"⟩
abbrev cX6_putsNumber : ByteArray := prog_8_method_68_code
def yX6_putsNumber : MethodName := ⟨RX6, "putsNumber", "(I)V"⟩
abbrev cX6_writeRule : ByteArray := prog_8_method_69_code
def yX6_writeRule : MethodName := ⟨RX6, "writeRule", "(I)I"⟩
abbrev cX6_lineAt : ByteArray := prog_8_method_70_code
def yX6_lineAt : MethodName := ⟨RX6, "lineAt", "(I)C"⟩
def RJx145de : String := "java/io/Serializable"
def TJx145de : u_T := fun k => match k with
  | _ => ("", "", "", false)
def tyJx145de : Nat → FieldType := fun k => match k with
  | _ => .int
abbrev wsJx145de0 : List Cond := u_ws RJx145de TJx145de 0
theorem nmJx145de : ∀ a, a < 0 → ∀ b, b < 0 → a ≠ b → (TJx145de a).2.1 ≠ (TJx145de b).2.1 := by decide +kernel
theorem tyJx145de_ok : ∀ k, k < 0 → parseFieldDescriptor (TJx145de k).2.2.1 = some (tyJx145de k) := by decide +kernel
def RJ5 : String := "java/lang/AbstractStringBuilder"
def TJ5 : u_T := fun k => match k with
  | _ => ("", "", "", false)
def tyJ5 : Nat → FieldType := fun k => match k with
  | _ => .int
abbrev wsJ50 : List Cond := u_ws RJ5 TJ5 0
theorem nmJ5 : ∀ a, a < 0 → ∀ b, b < 0 → a ≠ b → (TJ5 a).2.1 ≠ (TJ5 b).2.1 := by decide +kernel
theorem tyJ5_ok : ∀ k, k < 0 → parseFieldDescriptor (TJ5 k).2.2.1 = some (tyJ5 k) := by decide +kernel
abbrev cJ5_init_d00df : ByteArray := prog_10_method_2_code
def yJ5_init_d00df : MethodName := ⟨RJ5, "<init>", "(I)V"⟩
abbrev cJ5_length_8abf5 : ByteArray := prog_10_method_6_code
def yJ5_length_8abf5 : MethodName := ⟨RJ5, "length", "()I"⟩
abbrev cJ5_ensureCapacityInternal_d00df : ByteArray := prog_10_method_9_code
def yJ5_ensureCapacityInternal_d00df : MethodName := ⟨RJ5, "ensureCapacityInternal", "(I)V"⟩
abbrev cJ5_newCapacity_0f7a4 : ByteArray := prog_10_method_10_code
def yJ5_newCapacity_0f7a4 : MethodName := ⟨RJ5, "newCapacity", "(I)I"⟩
abbrev cJ5_inflate_da8c8 : ByteArray := prog_10_method_11_code
def yJ5_inflate_da8c8 : MethodName := ⟨RJ5, "inflate", "()V"⟩
abbrev cJ5_setLength_d00df : ByteArray := prog_10_method_13_code
def yJ5_setLength_d00df : MethodName := ⟨RJ5, "setLength", "(I)V"⟩
abbrev cJ5_charAt_5068e : ByteArray := prog_10_method_14_code
def yJ5_charAt_5068e : MethodName := ⟨RJ5, "charAt", "(I)C"⟩
abbrev cJ5_append_cf1ce : ByteArray := prog_10_method_22_code
def yJ5_append_cf1ce : MethodName := ⟨RJ5, "append", "(Ljava/lang/String;)Ljava/lang/AbstractStringBuilder;"⟩
abbrev cJ5_appendNull_278bc : ByteArray := prog_10_method_26_code
def yJ5_appendNull_278bc : MethodName := ⟨RJ5, "appendNull", "()Ljava/lang/AbstractStringBuilder;"⟩
abbrev cJ5_append_3fe6f : ByteArray := prog_10_method_31_code
def yJ5_append_3fe6f : MethodName := ⟨RJ5, "append", "(C)Ljava/lang/AbstractStringBuilder;"⟩
abbrev cJ5_append_c97b9 : ByteArray := prog_10_method_32_code
def yJ5_append_c97b9 : MethodName := ⟨RJ5, "append", "(I)Ljava/lang/AbstractStringBuilder;"⟩
abbrev cJ5_getValue_6d5f1 : ByteArray := prog_10_method_64_code
def yJ5_getValue_6d5f1 : MethodName := ⟨RJ5, "getValue", "()[B"⟩
abbrev cJ5_isLatin1_aae02 : ByteArray := prog_10_method_68_code
def yJ5_isLatin1_aae02 : MethodName := ⟨RJ5, "isLatin1", "()Z"⟩
abbrev cJ5_inflateIfNeededFor_a7421 : ByteArray := prog_10_method_71_code
def yJ5_inflateIfNeededFor_a7421 : MethodName := ⟨RJ5, "inflateIfNeededFor", "(Ljava/lang/String;)V"⟩
abbrev cJ5_putStringAt_47b60 : ByteArray := prog_10_method_73_code
def yJ5_putStringAt_47b60 : MethodName := ⟨RJ5, "putStringAt", "(ILjava/lang/String;)V"⟩
def RJx2cfe8 : String := "java/lang/Appendable"
def TJx2cfe8 : u_T := fun k => match k with
  | _ => ("", "", "", false)
def tyJx2cfe8 : Nat → FieldType := fun k => match k with
  | _ => .int
abbrev wsJx2cfe80 : List Cond := u_ws RJx2cfe8 TJx2cfe8 0
theorem nmJx2cfe8 : ∀ a, a < 0 → ∀ b, b < 0 → a ≠ b → (TJx2cfe8 a).2.1 ≠ (TJx2cfe8 b).2.1 := by decide +kernel
theorem tyJx2cfe8_ok : ∀ k, k < 0 → parseFieldDescriptor (TJx2cfe8 k).2.2.1 = some (tyJx2cfe8 k) := by decide +kernel
def RJx00060 : String := "java/lang/ArrayIndexOutOfBoundsException"
def TJx00060 : u_T := fun k => match k with
  | 0 => ("java/lang/Throwable", "backtrace", "Ljava/lang/Object;", false)
  | 1 => ("java/lang/Throwable", "detailMessage", "Ljava/lang/String;", false)
  | 2 => ("java/lang/Throwable", "cause", "Ljava/lang/Throwable;", false)
  | 3 => ("java/lang/Throwable", "stackTrace", "[Ljava/lang/StackTraceElement;", false)
  | 4 => ("java/lang/Throwable", "depth", "I", false)
  | _ => ("java/lang/Throwable", "suppressedExceptions", "Ljava/util/List;", false)
def tyJx00060 : Nat → FieldType := fun k => match k with
  | 0 => .object "java/lang/Object"
  | 1 => .object "java/lang/String"
  | 2 => .object "java/lang/Throwable"
  | 3 => .array (.object "java/lang/StackTraceElement")
  | 4 => .int
  | _ => .object "java/util/List"
abbrev wsJx000600 : List Cond := u_ws RJx00060 TJx00060 6
theorem nmJx00060 : ∀ a, a < 6 → ∀ b, b < 6 → a ≠ b → (TJx00060 a).2.1 ≠ (TJx00060 b).2.1 := by decide +kernel
theorem tyJx00060_ok : ∀ k, k < 6 → parseFieldDescriptor (TJx00060 k).2.2.1 = some (tyJx00060 k) := by decide +kernel
abbrev cJx00060_init_a7421 : ByteArray := prog_13_method_2_code
def yJx00060_init_a7421 : MethodName := ⟨RJx00060, "<init>", "(Ljava/lang/String;)V"⟩
abbrev cJx00060_init_d00df : ByteArray := prog_13_method_3_code
def yJx00060_init_d00df : MethodName := ⟨RJx00060, "<init>", "(I)V"⟩
def RJx9f9b0 : String := "java/lang/CharSequence"
def TJx9f9b0 : u_T := fun k => match k with
  | _ => ("", "", "", false)
def tyJx9f9b0 : Nat → FieldType := fun k => match k with
  | _ => .int
abbrev wsJx9f9b00 : List Cond := u_ws RJx9f9b0 TJx9f9b0 0
theorem nmJx9f9b0 : ∀ a, a < 0 → ∀ b, b < 0 → a ≠ b → (TJx9f9b0 a).2.1 ≠ (TJx9f9b0 b).2.1 := by decide +kernel
theorem tyJx9f9b0_ok : ∀ k, k < 0 → parseFieldDescriptor (TJx9f9b0 k).2.2.1 = some (tyJx9f9b0 k) := by decide +kernel
def RJx8e188 : String := "java/lang/Cloneable"
def TJx8e188 : u_T := fun k => match k with
  | _ => ("", "", "", false)
def tyJx8e188 : Nat → FieldType := fun k => match k with
  | _ => .int
abbrev wsJx8e1880 : List Cond := u_ws RJx8e188 TJx8e188 0
theorem nmJx8e188 : ∀ a, a < 0 → ∀ b, b < 0 → a ≠ b → (TJx8e188 a).2.1 ≠ (TJx8e188 b).2.1 := by decide +kernel
theorem tyJx8e188_ok : ∀ k, k < 0 → parseFieldDescriptor (TJx8e188 k).2.2.1 = some (tyJx8e188 k) := by decide +kernel
def RJxb160c : String := "java/lang/Comparable"
def TJxb160c : u_T := fun k => match k with
  | _ => ("", "", "", false)
def tyJxb160c : Nat → FieldType := fun k => match k with
  | _ => .int
abbrev wsJxb160c0 : List Cond := u_ws RJxb160c TJxb160c 0
theorem nmJxb160c : ∀ a, a < 0 → ∀ b, b < 0 → a ≠ b → (TJxb160c a).2.1 ≠ (TJxb160c b).2.1 := by decide +kernel
theorem tyJxb160c_ok : ∀ k, k < 0 → parseFieldDescriptor (TJxb160c k).2.2.1 = some (tyJxb160c k) := by decide +kernel
def RJ6 : String := "java/lang/Integer"
def TJ6 : u_T := fun k => match k with
  | _ => ("", "", "", false)
def tyJ6 : Nat → FieldType := fun k => match k with
  | _ => .int
abbrev wsJ60 : List Cond := u_ws RJ6 TJ6 0
theorem nmJ6 : ∀ a, a < 0 → ∀ b, b < 0 → a ≠ b → (TJ6 a).2.1 ≠ (TJ6 b).2.1 := by decide +kernel
theorem tyJ6_ok : ∀ k, k < 0 → parseFieldDescriptor (TJ6 k).2.2.1 = some (tyJ6 k) := by decide +kernel
abbrev cJ6_getChars_ba4f3 : ByteArray := prog_21_method_12_code
def yJ6_getChars_ba4f3 : MethodName := ⟨RJ6, "getChars", "(II[B)I"⟩
abbrev cJ6_stringSize_0f7a4 : ByteArray := prog_21_method_13_code
def yJ6_stringSize_0f7a4 : MethodName := ⟨RJ6, "stringSize", "(I)I"⟩
def RJxab1ab : String := "java/lang/Iterable"
def TJxab1ab : u_T := fun k => match k with
  | _ => ("", "", "", false)
def tyJxab1ab : Nat → FieldType := fun k => match k with
  | _ => .int
abbrev wsJxab1ab0 : List Cond := u_ws RJxab1ab TJxab1ab 0
theorem nmJxab1ab : ∀ a, a < 0 → ∀ b, b < 0 → a ≠ b → (TJxab1ab a).2.1 ≠ (TJxab1ab b).2.1 := by decide +kernel
theorem tyJxab1ab_ok : ∀ k, k < 0 → parseFieldDescriptor (TJxab1ab k).2.2.1 = some (tyJxab1ab k) := by decide +kernel
def RJ9 : String := "java/lang/Math"
def TJ9 : u_T := fun k => match k with
  | _ => ("", "", "", false)
def tyJ9 : Nat → FieldType := fun k => match k with
  | _ => .int
abbrev wsJ90 : List Cond := u_ws RJ9 TJ9 0
theorem nmJ9 : ∀ a, a < 0 → ∀ b, b < 0 → a ≠ b → (TJ9 a).2.1 ≠ (TJ9 b).2.1 := by decide +kernel
theorem tyJ9_ok : ∀ k, k < 0 → parseFieldDescriptor (TJ9 k).2.2.1 = some (tyJ9 k) := by decide +kernel
abbrev cJ9_max_7cf53 : ByteArray := prog_23_method_65_code
def yJ9_max_7cf53 : MethodName := ⟨RJ9, "max", "(II)I"⟩
abbrev cJ9_min_7cf53 : ByteArray := prog_23_method_69_code
def yJ9_min_7cf53 : MethodName := ⟨RJ9, "min", "(II)I"⟩
def RJxd2413 : String := "java/lang/Number"
def TJxd2413 : u_T := fun k => match k with
  | _ => ("", "", "", false)
def tyJxd2413 : Nat → FieldType := fun k => match k with
  | _ => .int
abbrev wsJxd24130 : List Cond := u_ws RJxd2413 TJxd2413 0
theorem nmJxd2413 : ∀ a, a < 0 → ∀ b, b < 0 → a ≠ b → (TJxd2413 a).2.1 ≠ (TJxd2413 b).2.1 := by decide +kernel
theorem tyJxd2413_ok : ∀ k, k < 0 → parseFieldDescriptor (TJxd2413 k).2.2.1 = some (tyJxd2413 k) := by decide +kernel
def RJ0 : String := "java/lang/String"
def TJ0 : u_T := fun k => match k with
  | 0 => ("java/lang/String", "value", "[B", true)
  | 1 => ("java/lang/String", "coder", "B", true)
  | 2 => ("java/lang/String", "hash", "I", false)
  | _ => ("java/lang/String", "hashIsZero", "Z", false)
def tyJ0 : Nat → FieldType := fun k => match k with
  | 0 => .array .byte
  | 1 => .byte
  | 2 => .int
  | _ => .boolean
abbrev wsJ00 : List Cond := u_ws RJ0 TJ0 4
theorem nmJ0 : ∀ a, a < 4 → ∀ b, b < 4 → a ≠ b → (TJ0 a).2.1 ≠ (TJ0 b).2.1 := by decide +kernel
theorem tyJ0_ok : ∀ k, k < 4 → parseFieldDescriptor (TJ0 k).2.2.1 = some (tyJ0 k) := by decide +kernel
abbrev cJ0_init_81219 : ByteArray := prog_26_method_53_code
def yJ0_init_81219 : MethodName := ⟨RJ0, "<init>", "(Ljava/lang/StringBuilder;)V"⟩
abbrev cJ0_length_8abf5 : ByteArray := prog_26_method_54_code
def yJ0_length_8abf5 : MethodName := ⟨RJ0, "length", "()I"⟩
abbrev cJ0_getBytes_840e7 : ByteArray := prog_26_method_147_code
def yJ0_getBytes_840e7 : MethodName := ⟨RJ0, "getBytes", "([BIB)V"⟩
abbrev cJ0_init_db425 : ByteArray := prog_26_method_150_code
def yJ0_init_db425 : MethodName := ⟨RJ0, "<init>", "(Ljava/lang/AbstractStringBuilder;Ljava/lang/Void;)V"⟩
abbrev cJ0_coder_7d493 : ByteArray := prog_26_method_152_code
def yJ0_coder_7d493 : MethodName := ⟨RJ0, "coder", "()B"⟩
abbrev cJ0_checkIndex_df160 : ByteArray := prog_26_method_155_code
def yJ0_checkIndex_df160 : MethodName := ⟨RJ0, "checkIndex", "(II)V"⟩
abbrev cJ0_checkBoundsOffCount_cabcc : ByteArray := prog_26_method_157_code
def yJ0_checkBoundsOffCount_cabcc : MethodName := ⟨RJ0, "checkBoundsOffCount", "(III)I"⟩
abbrev cJ0_checkBoundsBeginEnd_23922 : ByteArray := prog_26_method_158_code
def yJ0_checkBoundsBeginEnd_23922 : MethodName := ⟨RJ0, "checkBoundsBeginEnd", "(III)V"⟩
def RJ4 : String := "java/lang/StringBuilder"
def TJ4 : u_T := fun k => match k with
  | 0 => ("java/lang/AbstractStringBuilder", "value", "[B", false)
  | 1 => ("java/lang/AbstractStringBuilder", "coder", "B", false)
  | 2 => ("java/lang/AbstractStringBuilder", "maybeLatin1", "Z", false)
  | _ => ("java/lang/AbstractStringBuilder", "count", "I", false)
def tyJ4 : Nat → FieldType := fun k => match k with
  | 0 => .array .byte
  | 1 => .byte
  | 2 => .boolean
  | _ => .int
abbrev wsJ40 : List Cond := u_ws RJ4 TJ4 4
theorem nmJ4 : ∀ a, a < 4 → ∀ b, b < 4 → a ≠ b → (TJ4 a).2.1 ≠ (TJ4 b).2.1 := by decide +kernel
theorem tyJ4_ok : ∀ k, k < 4 → parseFieldDescriptor (TJ4 k).2.2.1 = some (tyJ4 k) := by decide +kernel
abbrev cJ4_init_da8c8 : ByteArray := prog_27_method_1_code
def yJ4_init_da8c8 : MethodName := ⟨RJ4, "<init>", "()V"⟩
abbrev cJ4_append_15ec4 : ByteArray := prog_27_method_7_code
def yJ4_append_15ec4 : MethodName := ⟨RJ4, "append", "(Ljava/lang/String;)Ljava/lang/StringBuilder;"⟩
abbrev cJ4_append_cf468 : ByteArray := prog_27_method_14_code
def yJ4_append_cf468 : MethodName := ⟨RJ4, "append", "(C)Ljava/lang/StringBuilder;"⟩
abbrev cJ4_append_bf812 : ByteArray := prog_27_method_15_code
def yJ4_append_bf812 : MethodName := ⟨RJ4, "append", "(I)Ljava/lang/StringBuilder;"⟩
abbrev cJ4_toString_0e30d : ByteArray := prog_27_method_42_code
def yJ4_toString_0e30d : MethodName := ⟨RJ4, "toString", "()Ljava/lang/String;"⟩
abbrev cJ4_charAt_5068e : ByteArray := prog_27_method_88_code
def yJ4_charAt_5068e : MethodName := ⟨RJ4, "charAt", "(I)C"⟩
abbrev cJ4_setLength_d00df : ByteArray := prog_27_method_89_code
def yJ4_setLength_d00df : MethodName := ⟨RJ4, "setLength", "(I)V"⟩
abbrev cJ4_length_8abf5 : ByteArray := prog_27_method_93_code
def yJ4_length_8abf5 : MethodName := ⟨RJ4, "length", "()I"⟩
def RJx7c733 : String := "java/lang/StringIndexOutOfBoundsException"
def TJx7c733 : u_T := fun k => match k with
  | 0 => ("java/lang/Throwable", "backtrace", "Ljava/lang/Object;", false)
  | 1 => ("java/lang/Throwable", "detailMessage", "Ljava/lang/String;", false)
  | 2 => ("java/lang/Throwable", "cause", "Ljava/lang/Throwable;", false)
  | 3 => ("java/lang/Throwable", "stackTrace", "[Ljava/lang/StackTraceElement;", false)
  | 4 => ("java/lang/Throwable", "depth", "I", false)
  | _ => ("java/lang/Throwable", "suppressedExceptions", "Ljava/util/List;", false)
def tyJx7c733 : Nat → FieldType := fun k => match k with
  | 0 => .object "java/lang/Object"
  | 1 => .object "java/lang/String"
  | 2 => .object "java/lang/Throwable"
  | 3 => .array (.object "java/lang/StackTraceElement")
  | 4 => .int
  | _ => .object "java/util/List"
abbrev wsJx7c7330 : List Cond := u_ws RJx7c733 TJx7c733 6
theorem nmJx7c733 : ∀ a, a < 6 → ∀ b, b < 6 → a ≠ b → (TJx7c733 a).2.1 ≠ (TJx7c733 b).2.1 := by decide +kernel
theorem tyJx7c733_ok : ∀ k, k < 6 → parseFieldDescriptor (TJx7c733 k).2.2.1 = some (tyJx7c733 k) := by decide +kernel
abbrev cJx7c733_init_d00df : ByteArray := prog_28_method_3_code
def yJx7c733_init_d00df : MethodName := ⟨RJx7c733, "<init>", "(I)V"⟩
def RJ1 : String := "java/lang/StringLatin1"
def TJ1 : u_T := fun k => match k with
  | _ => ("", "", "", false)
def tyJ1 : Nat → FieldType := fun k => match k with
  | _ => .int
abbrev wsJ10 : List Cond := u_ws RJ1 TJ1 0
theorem nmJ1 : ∀ a, a < 0 → ∀ b, b < 0 → a ≠ b → (TJ1 a).2.1 ≠ (TJ1 b).2.1 := by decide +kernel
theorem tyJ1_ok : ∀ k, k < 0 → parseFieldDescriptor (TJ1 k).2.2.1 = some (tyJ1 k) := by decide +kernel
abbrev cJ1_canEncode_fc78d : ByteArray := prog_29_method_3_code
def yJ1_canEncode_fc78d : MethodName := ⟨RJ1, "canEncode", "(C)Z"⟩
abbrev cJ1_fillNull_b72d1 : ByteArray := prog_29_method_48_code
def yJ1_fillNull_b72d1 : MethodName := ⟨RJ1, "fillNull", "([BII)V"⟩
abbrev cJ1_inflate_0e8fd : ByteArray := prog_29_method_50_code
def yJ1_inflate_0e8fd : MethodName := ⟨RJ1, "inflate", "([BI[BII)V"⟩
def RJ2 : String := "java/lang/StringUTF16"
def TJ2 : u_T := fun k => match k with
  | _ => ("", "", "", false)
def tyJ2 : Nat → FieldType := fun k => match k with
  | _ => .int
abbrev wsJ20 : List Cond := u_ws RJ2 TJ2 0
theorem nmJ2 : ∀ a, a < 0 → ∀ b, b < 0 → a ≠ b → (TJ2 a).2.1 ≠ (TJ2 b).2.1 := by decide +kernel
theorem tyJ2_ok : ∀ k, k < 0 → parseFieldDescriptor (TJ2 k).2.2.1 = some (tyJ2 k) := by decide +kernel
abbrev cJ2_newBytesFor_77867 : ByteArray := prog_30_method_2_code
def yJ2_newBytesFor_77867 : MethodName := ⟨RJ2, "newBytesFor", "(I)[B"⟩
abbrev cJ2_newBytesLength_0f7a4 : ByteArray := prog_30_method_3_code
def yJ2_newBytesLength_0f7a4 : MethodName := ⟨RJ2, "newBytesLength", "(I)I"⟩
abbrev cJ2_putChar_b72d1 : ByteArray := prog_30_method_4_code
def yJ2_putChar_b72d1 : MethodName := ⟨RJ2, "putChar", "([BII)V"⟩
abbrev cJ2_getChar_3b067 : ByteArray := prog_30_method_5_code
def yJ2_getChar_3b067 : MethodName := ⟨RJ2, "getChar", "([BI)C"⟩
abbrev cJ2_length_9d52b : ByteArray := prog_30_method_6_code
def yJ2_length_9d52b : MethodName := ⟨RJ2, "length", "([B)I"⟩
abbrev cJ2_coderFromArrayLen_85cad : ByteArray := prog_30_method_15_code
def yJ2_coderFromArrayLen_85cad : MethodName := ⟨RJ2, "coderFromArrayLen", "([BI)B"⟩
abbrev cJ2_compress_39247 : ByteArray := prog_30_method_17_code
def yJ2_compress_39247 : MethodName := ⟨RJ2, "compress", "([BII)[B"⟩
abbrev cJ2_compress_5af95 : ByteArray := prog_30_method_22_code
def yJ2_compress_5af95 : MethodName := ⟨RJ2, "compress", "([BI[BII)I"⟩
abbrev cJ2_fillNull_b72d1 : ByteArray := prog_30_method_70_code
def yJ2_fillNull_b72d1 : MethodName := ⟨RJ2, "fillNull", "([BII)V"⟩
abbrev cJ2_putCharSB_b72d1 : ByteArray := prog_30_method_71_code
def yJ2_putCharSB_b72d1 : MethodName := ⟨RJ2, "putCharSB", "([BII)V"⟩
abbrev cJ2_getChars_46870 : ByteArray := prog_30_method_77_code
def yJ2_getChars_46870 : MethodName := ⟨RJ2, "getChars", "(III[B)I"⟩
abbrev cJ2_putCharsAt_cd4e5 : ByteArray := prog_30_method_81_code
def yJ2_putCharsAt_cd4e5 : MethodName := ⟨RJ2, "putCharsAt", "([BICCCC)I"⟩
abbrev cJ2_inflate_0e8fd : ByteArray := prog_30_method_86_code
def yJ2_inflate_0e8fd : MethodName := ⟨RJ2, "inflate", "([BI[BII)V"⟩
abbrev cJ2_getChars_ba4f3 : ByteArray := prog_30_method_89_code
def yJ2_getChars_ba4f3 : MethodName := ⟨RJ2, "getChars", "(II[B)I"⟩
abbrev cJ2_checkIndex_2214a : ByteArray := prog_30_method_91_code
def yJ2_checkIndex_2214a : MethodName := ⟨RJ2, "checkIndex", "(I[B)V"⟩
abbrev cJ2_checkBoundsBeginEnd_d044e : ByteArray := prog_30_method_93_code
def yJ2_checkBoundsBeginEnd_d044e : MethodName := ⟨RJ2, "checkBoundsBeginEnd", "(II[B)V"⟩
abbrev cJ2_checkBoundsOffCount_d044e : ByteArray := prog_30_method_94_code
def yJ2_checkBoundsOffCount_d044e : MethodName := ⟨RJ2, "checkBoundsOffCount", "(II[B)V"⟩
def RJ10 : String := "java/lang/System"
def TJ10 : u_T := fun k => match k with
  | _ => ("", "", "", false)
def tyJ10 : Nat → FieldType := fun k => match k with
  | _ => .int
abbrev wsJ100 : List Cond := u_ws RJ10 TJ10 0
theorem nmJ10 : ∀ a, a < 0 → ∀ b, b < 0 → a ≠ b → (TJ10 a).2.1 ≠ (TJ10 b).2.1 := by decide +kernel
theorem tyJ10_ok : ∀ k, k < 0 → parseFieldDescriptor (TJ10 k).2.2.1 = some (tyJ10 k) := by decide +kernel
def RJxfd54e : String := "java/lang/constant/Constable"
def TJxfd54e : u_T := fun k => match k with
  | _ => ("", "", "", false)
def tyJxfd54e : Nat → FieldType := fun k => match k with
  | _ => .int
abbrev wsJxfd54e0 : List Cond := u_ws RJxfd54e TJxfd54e 0
theorem nmJxfd54e : ∀ a, a < 0 → ∀ b, b < 0 → a ≠ b → (TJxfd54e a).2.1 ≠ (TJxfd54e b).2.1 := by decide +kernel
theorem tyJxfd54e_ok : ∀ k, k < 0 → parseFieldDescriptor (TJxfd54e k).2.2.1 = some (tyJxfd54e k) := by decide +kernel
def RJx3cf43 : String := "java/lang/constant/ConstantDesc"
def TJx3cf43 : u_T := fun k => match k with
  | _ => ("", "", "", false)
def tyJx3cf43 : Nat → FieldType := fun k => match k with
  | _ => .int
abbrev wsJx3cf430 : List Cond := u_ws RJx3cf43 TJx3cf43 0
theorem nmJx3cf43 : ∀ a, a < 0 → ∀ b, b < 0 → a ≠ b → (TJx3cf43 a).2.1 ≠ (TJx3cf43 b).2.1 := by decide +kernel
theorem tyJx3cf43_ok : ∀ k, k < 0 → parseFieldDescriptor (TJx3cf43 k).2.2.1 = some (tyJx3cf43 k) := by decide +kernel
def RJxa1e45 : String := "java/util/AbstractCollection"
def TJxa1e45 : u_T := fun k => match k with
  | _ => ("", "", "", false)
def tyJxa1e45 : Nat → FieldType := fun k => match k with
  | _ => .int
abbrev wsJxa1e450 : List Cond := u_ws RJxa1e45 TJxa1e45 0
theorem nmJxa1e45 : ∀ a, a < 0 → ∀ b, b < 0 → a ≠ b → (TJxa1e45 a).2.1 ≠ (TJxa1e45 b).2.1 := by decide +kernel
theorem tyJxa1e45_ok : ∀ k, k < 0 → parseFieldDescriptor (TJxa1e45 k).2.2.1 = some (tyJxa1e45 k) := by decide +kernel
abbrev cJxa1e45_init_da8c8 : ByteArray := prog_36_method_1_code
def yJxa1e45_init_da8c8 : MethodName := ⟨RJxa1e45, "<init>", "()V"⟩
def RJxc12de : String := "java/util/AbstractList"
def TJxc12de : u_T := fun k => match k with
  | _ => ("", "", "", false)
def tyJxc12de : Nat → FieldType := fun k => match k with
  | _ => .int
abbrev wsJxc12de0 : List Cond := u_ws RJxc12de TJxc12de 0
theorem nmJxc12de : ∀ a, a < 0 → ∀ b, b < 0 → a ≠ b → (TJxc12de a).2.1 ≠ (TJxc12de b).2.1 := by decide +kernel
theorem tyJxc12de_ok : ∀ k, k < 0 → parseFieldDescriptor (TJxc12de k).2.2.1 = some (tyJxc12de k) := by decide +kernel
abbrev cJxc12de_init_da8c8 : ByteArray := prog_37_method_1_code
def yJxc12de_init_da8c8 : MethodName := ⟨RJxc12de, "<init>", "()V"⟩
def RJx4a65c : String := "java/util/ArrayList"
def TJx4a65c : u_T := fun k => match k with
  | 0 => ("java/util/AbstractList", "modCount", "I", false)
  | 1 => ("java/util/ArrayList", "elementData", "[Ljava/lang/Object;", false)
  | _ => ("java/util/ArrayList", "size", "I", false)
def tyJx4a65c : Nat → FieldType := fun k => match k with
  | 0 => .int
  | 1 => .array (.object "java/lang/Object")
  | _ => .int
abbrev wsJx4a65c0 : List Cond := u_ws RJx4a65c TJx4a65c 3
theorem nmJx4a65c : ∀ a, a < 3 → ∀ b, b < 3 → a ≠ b → (TJx4a65c a).2.1 ≠ (TJx4a65c b).2.1 := by decide +kernel
theorem tyJx4a65c_ok : ∀ k, k < 3 → parseFieldDescriptor (TJx4a65c k).2.2.1 = some (tyJx4a65c k) := by decide +kernel
abbrev cJx4a65c_init_da8c8 : ByteArray := prog_38_method_2_code
def yJx4a65c_init_da8c8 : MethodName := ⟨RJx4a65c, "<init>", "()V"⟩
abbrev cJx4a65c_grow_92f84 : ByteArray := prog_38_method_6_code
def yJx4a65c_grow_92f84 : MethodName := ⟨RJx4a65c, "grow", "(I)[Ljava/lang/Object;"⟩
abbrev cJx4a65c_grow_d5877 : ByteArray := prog_38_method_7_code
def yJx4a65c_grow_d5877 : MethodName := ⟨RJx4a65c, "grow", "()[Ljava/lang/Object;"⟩
abbrev cJx4a65c_size_8abf5 : ByteArray := prog_38_method_8_code
def yJx4a65c_size_8abf5 : MethodName := ⟨RJx4a65c, "size", "()I"⟩
abbrev cJx4a65c_isEmpty_aae02 : ByteArray := prog_38_method_9_code
def yJx4a65c_isEmpty_aae02 : MethodName := ⟨RJx4a65c, "isEmpty", "()Z"⟩
abbrev cJx4a65c_elementData_915e3 : ByteArray := prog_38_method_18_code
def yJx4a65c_elementData_915e3 : MethodName := ⟨RJx4a65c, "elementData", "(I)Ljava/lang/Object;"⟩
abbrev cJx4a65c_get_915e3 : ByteArray := prog_38_method_20_code
def yJx4a65c_get_915e3 : MethodName := ⟨RJx4a65c, "get", "(I)Ljava/lang/Object;"⟩
abbrev cJx4a65c_add_72be8 : ByteArray := prog_38_method_24_code
def yJx4a65c_add_72be8 : MethodName := ⟨RJx4a65c, "add", "(Ljava/lang/Object;[Ljava/lang/Object;I)V"⟩
abbrev cJx4a65c_add_9ea2d : ByteArray := prog_38_method_25_code
def yJx4a65c_add_9ea2d : MethodName := ⟨RJx4a65c, "add", "(Ljava/lang/Object;)Z"⟩
abbrev cJx4a65c_remove_915e3 : ByteArray := prog_38_method_29_code
def yJx4a65c_remove_915e3 : MethodName := ⟨RJx4a65c, "remove", "(I)Ljava/lang/Object;"⟩
abbrev cJx4a65c_fastRemove_b59b0 : ByteArray := prog_38_method_39_code
def yJx4a65c_fastRemove_b59b0 : MethodName := ⟨RJx4a65c, "fastRemove", "([Ljava/lang/Object;I)V"⟩
def RJ7 : String := "java/util/Arrays"
def TJ7 : u_T := fun k => match k with
  | _ => ("", "", "", false)
def tyJ7 : Nat → FieldType := fun k => match k with
  | _ => .int
abbrev wsJ70 : List Cond := u_ws RJ7 TJ7 0
theorem nmJ7 : ∀ a, a < 0 → ∀ b, b < 0 → a ≠ b → (TJ7 a).2.1 ≠ (TJ7 b).2.1 := by decide +kernel
theorem tyJ7_ok : ∀ k, k < 0 → parseFieldDescriptor (TJ7 k).2.2.1 = some (tyJ7 k) := by decide +kernel
abbrev cJ7_rangeCheck_23922 : ByteArray := prog_39_method_30_code
def yJ7_rangeCheck_23922 : MethodName := ⟨RJ7, "rangeCheck", "(III)V"⟩
abbrev cJ7_fill_53178 : ByteArray := prog_39_method_103_code
def yJ7_fill_53178 : MethodName := ⟨RJ7, "fill", "([II)V"⟩
abbrev cJ7_fill_eb02e : ByteArray := prog_39_method_110_code
def yJ7_fill_eb02e : MethodName := ⟨RJ7, "fill", "([BIIB)V"⟩
abbrev cJ7_copyOf_1904c : ByteArray := prog_39_method_119_code
def yJ7_copyOf_1904c : MethodName := ⟨RJ7, "copyOf", "([Ljava/lang/Object;I)[Ljava/lang/Object;"⟩
abbrev cJ7_copyOf_6403c : ByteArray := prog_39_method_120_code
def yJ7_copyOf_6403c : MethodName := ⟨RJ7, "copyOf", "([Ljava/lang/Object;ILjava/lang/Class;)[Ljava/lang/Object;"⟩
abbrev cJ7_copyOf_9075b : ByteArray := prog_39_method_121_code
def yJ7_copyOf_9075b : MethodName := ⟨RJ7, "copyOf", "([BI)[B"⟩
abbrev cJ7_checkLength_df160 : ByteArray := prog_39_method_131_code
def yJ7_checkLength_df160 : MethodName := ⟨RJ7, "checkLength", "(II)V"⟩
abbrev cJ7_copyOfRange_39247 : ByteArray := prog_39_method_132_code
def yJ7_copyOfRange_39247 : MethodName := ⟨RJ7, "copyOfRange", "([BII)[B"⟩
abbrev cJ7_copyOfRangeByte_39247 : ByteArray := prog_39_method_133_code
def yJ7_copyOfRangeByte_39247 : MethodName := ⟨RJ7, "copyOfRangeByte", "([BII)[B"⟩
def RJx5ef63 : String := "java/util/Collection"
def TJx5ef63 : u_T := fun k => match k with
  | _ => ("", "", "", false)
def tyJx5ef63 : Nat → FieldType := fun k => match k with
  | _ => .int
abbrev wsJx5ef630 : List Cond := u_ws RJx5ef63 TJx5ef63 0
theorem nmJx5ef63 : ∀ a, a < 0 → ∀ b, b < 0 → a ≠ b → (TJx5ef63 a).2.1 ≠ (TJx5ef63 b).2.1 := by decide +kernel
theorem tyJx5ef63_ok : ∀ k, k < 0 → parseFieldDescriptor (TJx5ef63 k).2.2.1 = some (tyJx5ef63 k) := by decide +kernel
def RJxbd725 : String := "java/util/List"
def TJxbd725 : u_T := fun k => match k with
  | _ => ("", "", "", false)
def tyJxbd725 : Nat → FieldType := fun k => match k with
  | _ => .int
abbrev wsJxbd7250 : List Cond := u_ws RJxbd725 TJxbd725 0
theorem nmJxbd725 : ∀ a, a < 0 → ∀ b, b < 0 → a ≠ b → (TJxbd725 a).2.1 ≠ (TJxbd725 b).2.1 := by decide +kernel
theorem tyJxbd725_ok : ∀ k, k < 0 → parseFieldDescriptor (TJxbd725 k).2.2.1 = some (tyJxbd725 k) := by decide +kernel
def RJ15 : String := "java/util/Objects"
def TJ15 : u_T := fun k => match k with
  | _ => ("", "", "", false)
def tyJ15 : Nat → FieldType := fun k => match k with
  | _ => .int
abbrev wsJ150 : List Cond := u_ws RJ15 TJ15 0
theorem nmJ15 : ∀ a, a < 0 → ∀ b, b < 0 → a ≠ b → (TJ15 a).2.1 ≠ (TJ15 b).2.1 := by decide +kernel
theorem tyJ15_ok : ∀ k, k < 0 → parseFieldDescriptor (TJ15 k).2.2.1 = some (tyJ15 k) := by decide +kernel
abbrev cJ15_checkIndex_7cf53 : ByteArray := prog_43_method_17_code
def yJ15_checkIndex_7cf53 : MethodName := ⟨RJ15, "checkIndex", "(II)I"⟩
def RJxf0a74 : String := "java/util/RandomAccess"
def TJxf0a74 : u_T := fun k => match k with
  | _ => ("", "", "", false)
def tyJxf0a74 : Nat → FieldType := fun k => match k with
  | _ => .int
abbrev wsJxf0a740 : List Cond := u_ws RJxf0a74 TJxf0a74 0
theorem nmJxf0a74 : ∀ a, a < 0 → ∀ b, b < 0 → a ≠ b → (TJxf0a74 a).2.1 ≠ (TJxf0a74 b).2.1 := by decide +kernel
theorem tyJxf0a74_ok : ∀ k, k < 0 → parseFieldDescriptor (TJxf0a74 k).2.2.1 = some (tyJxf0a74 k) := by decide +kernel
def RJxa66e6 : String := "java/util/SequencedCollection"
def TJxa66e6 : u_T := fun k => match k with
  | _ => ("", "", "", false)
def tyJxa66e6 : Nat → FieldType := fun k => match k with
  | _ => .int
abbrev wsJxa66e60 : List Cond := u_ws RJxa66e6 TJxa66e6 0
theorem nmJxa66e6 : ∀ a, a < 0 → ∀ b, b < 0 → a ≠ b → (TJxa66e6 a).2.1 ≠ (TJxa66e6 b).2.1 := by decide +kernel
theorem tyJxa66e6_ok : ∀ k, k < 0 → parseFieldDescriptor (TJxa66e6 k).2.2.1 = some (tyJxa66e6 k) := by decide +kernel
def RJ8 : String := "jdk/internal/util/ArraysSupport"
def TJ8 : u_T := fun k => match k with
  | _ => ("", "", "", false)
def tyJ8 : Nat → FieldType := fun k => match k with
  | _ => .int
abbrev wsJ80 : List Cond := u_ws RJ8 TJ8 0
theorem nmJ8 : ∀ a, a < 0 → ∀ b, b < 0 → a ≠ b → (TJ8 a).2.1 ≠ (TJ8 b).2.1 := by decide +kernel
theorem tyJ8_ok : ∀ k, k < 0 → parseFieldDescriptor (TJ8 k).2.2.1 = some (tyJ8 k) := by decide +kernel
abbrev cJ8_newLength_cabcc : ByteArray := prog_46_method_27_code
def yJ8_newLength_cabcc : MethodName := ⟨RJ8, "newLength", "(III)I"⟩
abbrev cJ8_hugeLength_7cf53 : ByteArray := prog_46_method_28_code
def yJ8_hugeLength_7cf53 : MethodName := ⟨RJ8, "hugeLength", "(II)I"⟩
def RJ3 : String := "jdk/internal/util/Preconditions"
def TJ3 : u_T := fun k => match k with
  | _ => ("", "", "", false)
def tyJ3 : Nat → FieldType := fun k => match k with
  | _ => .int
abbrev wsJ30 : List Cond := u_ws RJ3 TJ3 0
theorem nmJ3 : ∀ a, a < 0 → ∀ b, b < 0 → a ≠ b → (TJ3 a).2.1 ≠ (TJ3 b).2.1 := by decide +kernel
theorem tyJ3_ok : ∀ k, k < 0 → parseFieldDescriptor (TJ3 k).2.2.1 = some (tyJ3 k) := by decide +kernel
abbrev cJ3_checkIndex_8e157 : ByteArray := prog_47_method_11_code
def yJ3_checkIndex_8e157 : MethodName := ⟨RJ3, "checkIndex", "(IILjava/util/function/BiFunction;)I"⟩
abbrev cJ3_checkFromToIndex_8c36e : ByteArray := prog_47_method_12_code
def yJ3_checkFromToIndex_8c36e : MethodName := ⟨RJ3, "checkFromToIndex", "(IIILjava/util/function/BiFunction;)I"⟩
abbrev cJ3_checkFromIndexSize_8c36e : ByteArray := prog_47_method_13_code
def yJ3_checkFromIndexSize_8c36e : MethodName := ⟨RJ3, "checkFromIndexSize", "(IIILjava/util/function/BiFunction;)I"⟩
def RL : String := "StormBasinLaw"
abbrev cL_addBasin : ByteArray := method_3_code
def yL_addBasin : MethodName := ⟨RL, "addBasin", "(LStormBasin;IIIII[J)I"⟩
abbrev cL_addCell : ByteArray := method_4_code
def yL_addCell : MethodName := ⟨RL, "addCell", "(LStormBasin;II[J)I"⟩
abbrev cL_cellCount : ByteArray := method_5_code
def yL_cellCount : MethodName := ⟨RL, "cellCount", "(LStormBasin;I[J)I"⟩
abbrev cL_capacityOf : ByteArray := method_6_code
def yL_capacityOf : MethodName := ⟨RL, "capacityOf", "(LStormBasin;I[J)I"⟩
abbrev cL_setHand : ByteArray := method_7_code
def yL_setHand : MethodName := ⟨RL, "setHand", "(LStormBasin;II[J)I"⟩
abbrev cL_addRule : ByteArray := method_8_code
def yL_addRule : MethodName := ⟨RL, "addRule", "(LStormBasin;IIZII[J)I"⟩
abbrev cL_removeRule : ByteArray := method_9_code
def yL_removeRule : MethodName := ⟨RL, "removeRule", "(LStormBasin;I[J)I"⟩
abbrev cL_doesHold : ByteArray := method_10_code
def yL_doesHold : MethodName := ⟨RL, "doesHold", "(LStormBasin;I[J)I"⟩
abbrev cL_openingNow : ByteArray := method_11_code
def yL_openingNow : MethodName := ⟨RL, "openingNow", "(LStormBasin;I[J)I"⟩
abbrev cL_setRain : ByteArray := method_12_code
def yL_setRain : MethodName := ⟨RL, "setRain", "(LStormBasin;II[J)I"⟩
abbrev cL_pass : ByteArray := method_13_code
def yL_pass : MethodName := ⟨RL, "pass", "(LStormBasin;I[J)I"⟩
abbrev cL_volumeOf : ByteArray := method_14_code
def yL_volumeOf : MethodName := ⟨RL, "volumeOf", "(LStormBasin;I[J)I"⟩
abbrev cL_levelOf : ByteArray := method_15_code
def yL_levelOf : MethodName := ⟨RL, "levelOf", "(LStormBasin;I[J)I"⟩
abbrev cL_streetVolume : ByteArray := method_16_code
def yL_streetVolume : MethodName := ⟨RL, "streetVolume", "(LStormBasin;I[J)I"⟩
abbrev cL_depthAt : ByteArray := method_17_code
def yL_depthAt : MethodName := ⟨RL, "depthAt", "(LStormBasin;II[J)I"⟩
abbrev cL_depthByPouring : ByteArray := method_18_code
def yL_depthByPouring : MethodName := ⟨RL, "depthByPouring", "(LStormBasin;II[J)I"⟩
abbrev cL_depthThen : ByteArray := method_19_code
def yL_depthThen : MethodName := ⟨RL, "depthThen", "(LStormBasin;III[J)I"⟩
abbrev cL_wetCells : ByteArray := method_20_code
def yL_wetCells : MethodName := ⟨RL, "wetCells", "(LStormBasin;I[J)I"⟩
abbrev cL_wetHours : ByteArray := method_21_code
def yL_wetHours : MethodName := ⟨RL, "wetHours", "(LStormBasin;II[J)I"⟩
abbrev cL_addHouse : ByteArray := method_22_code
def yL_addHouse : MethodName := ⟨RL, "addHouse", "(LStormBasin;IIII[J)I"⟩
abbrev cL_wasWet : ByteArray := method_23_code
def yL_wasWet : MethodName := ⟨RL, "wasWet", "(LStormBasin;II[J)I"⟩
abbrev cL_worthOf : ByteArray := method_24_code
def yL_worthOf : MethodName := ⟨RL, "worthOf", "(LStormBasin;II[J)I"⟩
abbrev cL_claim : ByteArray := method_25_code
def yL_claim : MethodName := ⟨RL, "claim", "(LStormBasin;II[J)I"⟩
abbrev cL_claimWorst : ByteArray := method_26_code
def yL_claimWorst : MethodName := ⟨RL, "claimWorst", "(LStormBasin;I[J)I"⟩
abbrev cL_claimCount : ByteArray := method_27_code
def yL_claimCount : MethodName := ⟨RL, "claimCount", "(LStormBasin;I[J)I"⟩
abbrev cL_paidTo : ByteArray := method_28_code
def yL_paidTo : MethodName := ⟨RL, "paidTo", "(LStormBasin;I[J)I"⟩
abbrev cL_meanPayment : ByteArray := method_29_code
def yL_meanPayment : MethodName := ⟨RL, "meanPayment", "(LStormBasin;[D)I"⟩
abbrev cL_floodedWithOpening : ByteArray := method_30_code
def yL_floodedWithOpening : MethodName := ⟨RL, "floodedWithOpening", "(LStormBasin;II[J)I"⟩
abbrev cL_bestOpening : ByteArray := method_31_code
def yL_bestOpening : MethodName := ⟨RL, "bestOpening", "(LStormBasin;I[J)I"⟩
abbrev cL_writeRule : ByteArray := method_32_code
def yL_writeRule : MethodName := ⟨RL, "writeRule", "(LStormBasin;I[J)I"⟩
abbrev cL_lineAt : ByteArray := method_33_code
def yL_lineAt : MethodName := ⟨RL, "lineAt", "(LStormBasin;I[J)I"⟩
abbrev cL_law : ByteArray := code
def yL_law : MethodName := ⟨RL, "law", "([I)Z"⟩
abbrev vwCl : List vw_C := [(RJ0, TJ0, 4), (RJ4, TJ4, 4), (RJx00060, TJx00060, 6), (RJx7c733, TJx7c733, 6), (RJx4a65c, TJx4a65c, 3), (RX0, TX0, 8), (RX1, TX1, 7), (RX2, TX2, 5), (RX3, TX3, 5), (RX4, TX4, 4), (RX5, TX5, 9), (RX6, TX6, 38)]
