def RX0 : String := "Teethrow$Order"
def TX0 : u_T := fun k => match k with
  | 0 => ("Teethrow$Order", "shape", "C", true)
  | 1 => ("Teethrow$Order", "name", "C", true)
  | 2 => ("Teethrow$Order", "many", "I", true)
  | _ => ("Teethrow$Order", "sent", "I", false)
def tyX0 : Nat → FieldType := fun k => match k with
  | 0 => .char
  | 1 => .char
  | 2 => .int
  | _ => .int
abbrev wsX00 : List Cond := u_ws RX0 TX0 4
theorem nmX0 : ∀ a, a < 4 → ∀ b, b < 4 → a ≠ b → (TX0 a).2.1 ≠ (TX0 b).2.1 := by decide +kernel
theorem tyX0_ok : ∀ k, k < 4 → parseFieldDescriptor (TX0 k).2.2.1 = some (tyX0 k) := by decide +kernel
abbrev cX0_init : ByteArray := prog_2_method_1_code
def yX0_init : MethodName := ⟨RX0, "<init>", "(CCI)V"⟩
abbrev cX0_takes : ByteArray := prog_2_method_2_code
def yX0_takes : MethodName := ⟨RX0, "takes", "(LTeethrow$Tool;)Z"⟩
def RX1 : String := "Teethrow$Row"
def TX1 : u_T := fun k => match k with
  | 0 => ("Teethrow$Row", "name", "C", false)
  | 1 => ("Teethrow$Row", "depth", "I", false)
  | 2 => ("Teethrow$Row", "spread", "I", false)
  | 3 => ("Teethrow$Row", "count", "I", false)
  | 4 => ("Teethrow$Row", "isUpcut", "Z", false)
  | 5 => ("Teethrow$Row", "places", "[I", true)
  | 6 => ("Teethrow$Row", "heights", "[I", true)
  | _ => ("Teethrow$Row", "wears", "[I", true)
def tyX1 : Nat → FieldType := fun k => match k with
  | 0 => .char
  | 1 => .int
  | 2 => .int
  | 3 => .int
  | 4 => .boolean
  | 5 => .array .int
  | 6 => .array .int
  | _ => .array .int
abbrev wsX10 : List Cond := u_ws RX1 TX1 8
theorem nmX1 : ∀ a, a < 8 → ∀ b, b < 8 → a ≠ b → (TX1 a).2.1 ≠ (TX1 b).2.1 := by decide +kernel
theorem tyX1_ok : ∀ k, k < 8 → parseFieldDescriptor (TX1 k).2.2.1 = some (tyX1 k) := by decide +kernel
abbrev cX1_init : ByteArray := prog_3_method_1_code
def yX1_init : MethodName := ⟨RX1, "<init>", "()V"⟩
abbrev cX1_fill : ByteArray := prog_3_method_2_code
def yX1_fill : MethodName := ⟨RX1, "fill", "(CIII)V"⟩
abbrev cX1_clear : ByteArray := prog_3_method_3_code
def yX1_clear : MethodName := ⟨RX1, "clear", "()V"⟩
abbrev cX1_become : ByteArray := prog_3_method_4_code
def yX1_become : MethodName := ⟨RX1, "become", "(LTeethrow$Row;)V"⟩
abbrev cX1_stepBehind : ByteArray := prog_3_method_5_code
def yX1_stepBehind : MethodName := ⟨RX1, "stepBehind", "(I)I"⟩
abbrev cX1_lowerAll : ByteArray := prog_3_method_6_code
def yX1_lowerAll : MethodName := ⟨RX1, "lowerAll", "()V"⟩
abbrev cX1_highest : ByteArray := prog_3_method_7_code
def yX1_highest : MethodName := ⟨RX1, "highest", "()I"⟩
abbrev cX1_isEven : ByteArray := prog_3_method_8_code
def yX1_isEven : MethodName := ⟨RX1, "isEven", "()Z"⟩
abbrev cX1_stroke : ByteArray := prog_3_method_9_code
def yX1_stroke : MethodName := ⟨RX1, "stroke", "(III)I"⟩
abbrev cX1_wearTooth : ByteArray := prog_3_method_10_code
def yX1_wearTooth : MethodName := ⟨RX1, "wearTooth", "(II)V"⟩
abbrev cX1_biteAhead : ByteArray := prog_3_method_11_code
def yX1_biteAhead : MethodName := ⟨RX1, "biteAhead", "(II)I"⟩
abbrev cX1_lostOnes : ByteArray := prog_3_method_12_code
def yX1_lostOnes : MethodName := ⟨RX1, "lostOnes", "()I"⟩
abbrev cX1_hasLost : ByteArray := prog_3_method_13_code
def yX1_hasLost : MethodName := ⟨RX1, "hasLost", "(I)Z"⟩
abbrev cX1_isFresh : ByteArray := prog_3_method_14_code
def yX1_isFresh : MethodName := ⟨RX1, "isFresh", "()Z"⟩
abbrev cX1_placesAreDue : ByteArray := prog_3_method_15_code
def yX1_placesAreDue : MethodName := ⟨RX1, "placesAreDue", "(I)Z"⟩
def RX2 : String := "Teethrow$Tool"
def TX2 : u_T := fun k => match k with
  | 0 => ("Teethrow$Tool", "shape", "C", true)
  | 1 => ("Teethrow$Tool", "length", "I", true)
  | 2 => ("Teethrow$Tool", "carbon", "I", true)
  | 3 => ("Teethrow$Tool", "thickness", "I", false)
  | 4 => ("Teethrow$Tool", "state", "C", false)
  | 5 => ("Teethrow$Tool", "row", "LTeethrow$Row;", true)
  | 6 => ("Teethrow$Tool", "sawSet", "I", false)
  | 7 => ("Teethrow$Tool", "hardness", "I", false)
  | 8 => ("Teethrow$Tool", "bend", "I", false)
  | 9 => ("Teethrow$Tool", "straighteningsLeft", "I", false)
  | 10 => ("Teethrow$Tool", "chips", "I", false)
  | 11 => ("Teethrow$Tool", "biteOfChips", "I", false)
  | 12 => ("Teethrow$Tool", "work", "I", false)
  | _ => ("Teethrow$Tool", "recuts", "I", false)
def tyX2 : Nat → FieldType := fun k => match k with
  | 0 => .char
  | 1 => .int
  | 2 => .int
  | 3 => .int
  | 4 => .char
  | 5 => .object "Teethrow$Row"
  | 6 => .int
  | 7 => .int
  | 8 => .int
  | 9 => .int
  | 10 => .int
  | 11 => .int
  | 12 => .int
  | _ => .int
abbrev wsX20 : List Cond := u_ws RX2 TX2 14
theorem nmX2 : ∀ a, a < 14 → ∀ b, b < 14 → a ≠ b → (TX2 a).2.1 ≠ (TX2 b).2.1 := by decide +kernel
theorem tyX2_ok : ∀ k, k < 14 → parseFieldDescriptor (TX2 k).2.2.1 = some (tyX2 k) := by decide +kernel
abbrev cX2_init : ByteArray := prog_4_method_1_code
def yX2_init : MethodName := ⟨RX2, "<init>", "(CIII)V"⟩
abbrev cX2_cool : ByteArray := prog_4_method_2_code
def yX2_cool : MethodName := ⟨RX2, "cool", "()V"⟩
abbrev cX2_holds : ByteArray := prog_4_method_3_code
def yX2_holds : MethodName := ⟨RX2, "holds", "()I"⟩
abbrev cX2_quench : ByteArray := prog_4_method_4_code
def yX2_quench : MethodName := ⟨RX2, "quench", "(III)V"⟩
abbrev cX2_bite : ByteArray := prog_4_method_5_code
def yX2_bite : MethodName := ⟨RX2, "bite", "(II)I"⟩
abbrev cX2_greatestBite : ByteArray := prog_4_method_6_code
def yX2_greatestBite : MethodName := ⟨RX2, "greatestBite", "()I"⟩
abbrev cX2_oneMoreBite : ByteArray := prog_4_method_7_code
def yX2_oneMoreBite : MethodName := ⟨RX2, "oneMoreBite", "()I"⟩
abbrev cX2_groundThickness : ByteArray := prog_4_method_8_code
def yX2_groundThickness : MethodName := ⟨RX2, "groundThickness", "()I"⟩
abbrev cX2_takeTeethOff : ByteArray := prog_4_method_9_code
def yX2_takeTeethOff : MethodName := ⟨RX2, "takeTeethOff", "()V"⟩
abbrev cX2_addTo : ByteArray := prog_4_method_10_code
def yX2_addTo : MethodName := ⟨RX2, "addTo", "(J)J"⟩
def RX3 : String := "Teethrow"
def TX3 : u_T := fun k => match k with
  | 0 => ("Teethrow", "tools", "[LTeethrow$Tool;", true)
  | 1 => ("Teethrow", "toolCount", "I", false)
  | 2 => ("Teethrow", "orders", "[LTeethrow$Order;", true)
  | 3 => ("Teethrow", "orderCount", "I", false)
  | 4 => ("Teethrow", "random", "J", false)
  | _ => ("Teethrow", "copy", "LTeethrow$Row;", true)
def tyX3 : Nat → FieldType := fun k => match k with
  | 0 => .array (.object "Teethrow$Tool")
  | 1 => .int
  | 2 => .array (.object "Teethrow$Order")
  | 3 => .int
  | 4 => .long
  | _ => .object "Teethrow$Row"
abbrev wsX30 : List Cond := u_ws RX3 TX3 6
theorem nmX3 : ∀ a, a < 6 → ∀ b, b < 6 → a ≠ b → (TX3 a).2.1 ≠ (TX3 b).2.1 := by decide +kernel
theorem tyX3_ok : ∀ k, k < 6 → parseFieldDescriptor (TX3 k).2.2.1 = some (tyX3 k) := by decide +kernel
abbrev cX3_init : ByteArray := prog_1_method_1_code
def yX3_init : MethodName := ⟨RX3, "<init>", "()V"⟩
abbrev cX3_blank : ByteArray := prog_1_method_2_code
def yX3_blank : MethodName := ⟨RX3, "blank", "(CIII)I"⟩
abbrev cX3_cut : ByteArray := prog_1_method_3_code
def yX3_cut : MethodName := ⟨RX3, "cut", "(ICI)I"⟩
abbrev cX3_upcut : ByteArray := prog_1_method_4_code
def yX3_upcut : MethodName := ⟨RX3, "upcut", "(I)I"⟩
abbrev cX3_teeth : ByteArray := prog_1_method_5_code
def yX3_teeth : MethodName := ⟨RX3, "teeth", "(I)I"⟩
abbrev cX3_place : ByteArray := prog_1_method_6_code
def yX3_place : MethodName := ⟨RX3, "place", "(II)I"⟩
abbrev cX3_height : ByteArray := prog_1_method_7_code
def yX3_height : MethodName := ⟨RX3, "height", "(II)I"⟩
abbrev cX3_wear : ByteArray := prog_1_method_8_code
def yX3_wear : MethodName := ⟨RX3, "wear", "(II)I"⟩
abbrev cX3_sings : ByteArray := prog_1_method_9_code
def yX3_sings : MethodName := ⟨RX3, "sings", "(I)Z"⟩
abbrev cX3_set : ByteArray := prog_1_method_10_code
def yX3_set : MethodName := ⟨RX3, "set", "(II)I"⟩
abbrev cX3_kerf : ByteArray := prog_1_method_11_code
def yX3_kerf : MethodName := ⟨RX3, "kerf", "(I)I"⟩
abbrev cX3_gullets : ByteArray := prog_1_method_12_code
def yX3_gullets : MethodName := ⟨RX3, "gullets", "(I)I"⟩
abbrev cX3_thickness : ByteArray := prog_1_method_13_code
def yX3_thickness : MethodName := ⟨RX3, "thickness", "(I)I"⟩
abbrev cX3_state : ByteArray := prog_1_method_14_code
def yX3_state : MethodName := ⟨RX3, "state", "(I)C"⟩
abbrev cX3_harden : ByteArray := prog_1_method_15_code
def yX3_harden : MethodName := ⟨RX3, "harden", "(IIC)I"⟩
abbrev cX3_hardness : ByteArray := prog_1_method_16_code
def yX3_hardness : MethodName := ⟨RX3, "hardness", "(I)I"⟩
abbrev cX3_bend : ByteArray := prog_1_method_17_code
def yX3_bend : MethodName := ⟨RX3, "bend", "(I)I"⟩
abbrev cX3_temper : ByteArray := prog_1_method_18_code
def yX3_temper : MethodName := ⟨RX3, "temper", "(II)I"⟩
abbrev cX3_straighten : ByteArray := prog_1_method_19_code
def yX3_straighten : MethodName := ⟨RX3, "straighten", "(II)I"⟩
abbrev cX3_seed : ByteArray := prog_1_method_20_code
def yX3_seed : MethodName := ⟨RX3, "seed", "(I)I"⟩
abbrev cX3_strokes : ByteArray := prog_1_method_21_code
def yX3_strokes : MethodName := ⟨RX3, "strokes", "(III)I"⟩
abbrev cX3_chips : ByteArray := prog_1_method_22_code
def yX3_chips : MethodName := ⟨RX3, "chips", "(I)I"⟩
abbrev cX3_brush : ByteArray := prog_1_method_23_code
def yX3_brush : MethodName := ⟨RX3, "brush", "(I)I"⟩
abbrev cX3_work : ByteArray := prog_1_method_24_code
def yX3_work : MethodName := ⟨RX3, "work", "(I)I"⟩
abbrev cX3_soften : ByteArray := prog_1_method_25_code
def yX3_soften : MethodName := ⟨RX3, "soften", "(I)I"⟩
abbrev cX3_grind : ByteArray := prog_1_method_26_code
def yX3_grind : MethodName := ⟨RX3, "grind", "(I)I"⟩
abbrev cX3_recuts : ByteArray := prog_1_method_27_code
def yX3_recuts : MethodName := ⟨RX3, "recuts", "(I)I"⟩
abbrev cX3_recutsLeft : ByteArray := prog_1_method_28_code
def yX3_recutsLeft : MethodName := ⟨RX3, "recutsLeft", "(IC)I"⟩
abbrev cX3_order : ByteArray := prog_1_method_29_code
def yX3_order : MethodName := ⟨RX3, "order", "(CCI)I"⟩
abbrev cX3_isGood : ByteArray := prog_1_method_30_code
def yX3_isGood : MethodName := ⟨RX3, "isGood", "(II)Z"⟩
abbrev cX3_send : ByteArray := prog_1_method_31_code
def yX3_send : MethodName := ⟨RX3, "send", "(II)I"⟩
abbrev cX3_sent : ByteArray := prog_1_method_32_code
def yX3_sent : MethodName := ⟨RX3, "sent", "(I)I"⟩
abbrev cX3_wornShare : ByteArray := prog_1_method_33_code
def yX3_wornShare : MethodName := ⟨RX3, "wornShare", "()F"⟩
abbrev cX3_meanHardness : ByteArray := prog_1_method_34_code
def yX3_meanHardness : MethodName := ⟨RX3, "meanHardness", "()D"⟩
abbrev cX3_checksum : ByteArray := prog_1_method_35_code
def yX3_checksum : MethodName := ⟨RX3, "checksum", "()J"⟩
abbrev cX3_isSound : ByteArray := prog_1_method_36_code
def yX3_isSound : MethodName := ⟨RX3, "isSound", "()Z"⟩
abbrev cX3_isSoundTool : ByteArray := prog_1_method_37_code
def yX3_isSoundTool : MethodName := ⟨RX3, "isSoundTool", "(LTeethrow$Tool;)Z"⟩
abbrev cX3_strokesOnCopyAsDue : ByteArray := prog_1_method_38_code
def yX3_strokesOnCopyAsDue : MethodName := ⟨RX3, "strokesOnCopyAsDue", "(LTeethrow$Tool;)Z"⟩
abbrev cX3_needTool : ByteArray := prog_1_method_39_code
def yX3_needTool : MethodName := ⟨RX3, "needTool", "(I)LTeethrow$Tool;"⟩
abbrev cX3_needOrder : ByteArray := prog_1_method_40_code
def yX3_needOrder : MethodName := ⟨RX3, "needOrder", "(I)LTeethrow$Order;"⟩
abbrev cX3_needTooth : ByteArray := prog_1_method_41_code
def yX3_needTooth : MethodName := ⟨RX3, "needTooth", "(LTeethrow$Row;I)V"⟩
abbrev cX3_needHard : ByteArray := prog_1_method_42_code
def yX3_needHard : MethodName := ⟨RX3, "needHard", "(LTeethrow$Tool;)V"⟩
abbrev cX3_needShape : ByteArray := prog_1_method_43_code
def yX3_needShape : MethodName := ⟨RX3, "needShape", "(C)V"⟩
abbrev cX3_needCut : ByteArray := prog_1_method_44_code
def yX3_needCut : MethodName := ⟨RX3, "needCut", "(C)V"⟩
abbrev cX3_needBath : ByteArray := prog_1_method_45_code
def yX3_needBath : MethodName := ⟨RX3, "needBath", "(C)V"⟩
abbrev cX3_needWithin : ByteArray := prog_1_method_46_code
def yX3_needWithin : MethodName := ⟨RX3, "needWithin", "(III)V"⟩
abbrev cX3_pitchOf : ByteArray := prog_1_method_47_code
def yX3_pitchOf : MethodName := ⟨RX3, "pitchOf", "(C)I"⟩
abbrev cX3_depthOf : ByteArray := prog_1_method_48_code
def yX3_depthOf : MethodName := ⟨RX3, "depthOf", "(CC)I"⟩
abbrev cX3_forceOf : ByteArray := prog_1_method_49_code
def yX3_forceOf : MethodName := ⟨RX3, "forceOf", "(C)I"⟩
abbrev cX3_biteOf : ByteArray := prog_1_method_50_code
def yX3_biteOf : MethodName := ⟨RX3, "biteOf", "(II)I"⟩
def RX4 : String := "TeethrowModel"
def TX4 : u_T := fun k => match k with
  | 0 => ("TeethrowModel", "thrown", "I", false)
  | 1 => ("TeethrowModel", "tools", "I", false)
  | 2 => ("TeethrowModel", "shape", "[C", true)
  | 3 => ("TeethrowModel", "name", "[C", true)
  | 4 => ("TeethrowModel", "state", "[C", true)
  | 5 => ("TeethrowModel", "length", "[I", true)
  | 6 => ("TeethrowModel", "thick", "[I", true)
  | 7 => ("TeethrowModel", "carbon", "[I", true)
  | 8 => ("TeethrowModel", "spread", "[I", true)
  | 9 => ("TeethrowModel", "set", "[I", true)
  | 10 => ("TeethrowModel", "hard", "[I", true)
  | 11 => ("TeethrowModel", "bent", "[I", true)
  | 12 => ("TeethrowModel", "straightened", "[I", true)
  | 13 => ("TeethrowModel", "chips", "[I", true)
  | 14 => ("TeethrowModel", "works", "[I", true)
  | 15 => ("TeethrowModel", "recut", "[I", true)
  | 16 => ("TeethrowModel", "teeth", "[I", true)
  | 17 => ("TeethrowModel", "isUpcut", "[Z", true)
  | 18 => ("TeethrowModel", "isWarm", "[Z", true)
  | 19 => ("TeethrowModel", "isGone", "[Z", true)
  | 20 => ("TeethrowModel", "heights", "[I", true)
  | 21 => ("TeethrowModel", "wears", "[I", true)
  | 22 => ("TeethrowModel", "z", "I", false)
  | 23 => ("TeethrowModel", "orders", "I", false)
  | 24 => ("TeethrowModel", "wanted", "[C", true)
  | 25 => ("TeethrowModel", "named", "[C", true)
  | 26 => ("TeethrowModel", "many", "[I", true)
  | _ => ("TeethrowModel", "sent", "[I", true)
def tyX4 : Nat → FieldType := fun k => match k with
  | 0 => .int
  | 1 => .int
  | 2 => .array .char
  | 3 => .array .char
  | 4 => .array .char
  | 5 => .array .int
  | 6 => .array .int
  | 7 => .array .int
  | 8 => .array .int
  | 9 => .array .int
  | 10 => .array .int
  | 11 => .array .int
  | 12 => .array .int
  | 13 => .array .int
  | 14 => .array .int
  | 15 => .array .int
  | 16 => .array .int
  | 17 => .array .boolean
  | 18 => .array .boolean
  | 19 => .array .boolean
  | 20 => .array .int
  | 21 => .array .int
  | 22 => .int
  | 23 => .int
  | 24 => .array .char
  | 25 => .array .char
  | 26 => .array .int
  | _ => .array .int
abbrev wsX40 : List Cond := u_ws RX4 TX4 28
theorem nmX4 : ∀ a, a < 28 → ∀ b, b < 28 → a ≠ b → (TX4 a).2.1 ≠ (TX4 b).2.1 := by decide +kernel
theorem tyX4_ok : ∀ k, k < 28 → parseFieldDescriptor (TX4 k).2.2.1 = some (tyX4 k) := by decide +kernel
abbrev cX4_init : ByteArray := prog_6_method_1_code
def yX4_init : MethodName := ⟨RX4, "<init>", "()V"⟩
abbrev cX4_isWrong : ByteArray := prog_6_method_3_code
def yX4_isWrong : MethodName := ⟨RX4, "isWrong", "(I)Z"⟩
abbrev cX4_isBetween : ByteArray := prog_6_method_4_code
def yX4_isBetween : MethodName := ⟨RX4, "isBetween", "(III)Z"⟩
abbrev cX4_least : ByteArray := prog_6_method_5_code
def yX4_least : MethodName := ⟨RX4, "least", "(II)I"⟩
abbrev cX4_most : ByteArray := prog_6_method_6_code
def yX4_most : MethodName := ⟨RX4, "most", "(II)I"⟩
abbrev cX4_isShape : ByteArray := prog_6_method_7_code
def yX4_isShape : MethodName := ⟨RX4, "isShape", "(C)Z"⟩
abbrev cX4_isCut : ByteArray := prog_6_method_8_code
def yX4_isCut : MethodName := ⟨RX4, "isCut", "(C)Z"⟩
abbrev cX4_pitchOf : ByteArray := prog_6_method_9_code
def yX4_pitchOf : MethodName := ⟨RX4, "pitchOf", "(C)I"⟩
abbrev cX4_depthOf : ByteArray := prog_6_method_10_code
def yX4_depthOf : MethodName := ⟨RX4, "depthOf", "(CC)I"⟩
abbrev cX4_isNone : ByteArray := prog_6_method_11_code
def yX4_isNone : MethodName := ⟨RX4, "isNone", "(I)Z"⟩
abbrev cX4_depth : ByteArray := prog_6_method_12_code
def yX4_depth : MethodName := ⟨RX4, "depth", "(I)I"⟩
abbrev cX4_placeOf : ByteArray := prog_6_method_13_code
def yX4_placeOf : MethodName := ⟨RX4, "placeOf", "(II)I"⟩
abbrev cX4_doesSing : ByteArray := prog_6_method_14_code
def yX4_doesSing : MethodName := ⟨RX4, "doesSing", "(I)Z"⟩
abbrev cX4_holds : ByteArray := prog_6_method_15_code
def yX4_holds : MethodName := ⟨RX4, "holds", "(I)I"⟩
abbrev cX4_full : ByteArray := prog_6_method_16_code
def yX4_full : MethodName := ⟨RX4, "full", "(I)I"⟩
abbrev cX4_worn : ByteArray := prog_6_method_17_code
def yX4_worn : MethodName := ⟨RX4, "worn", "(I)I"⟩
abbrev cX4_isWorked : ByteArray := prog_6_method_18_code
def yX4_isWorked : MethodName := ⟨RX4, "isWorked", "(I)Z"⟩
abbrev cX4_blank : ByteArray := prog_6_method_19_code
def yX4_blank : MethodName := ⟨RX4, "blank", "(CIII)I"⟩
abbrev cX4_cut : ByteArray := prog_6_method_20_code
def yX4_cut : MethodName := ⟨RX4, "cut", "(ICI)I"⟩
abbrev cX4_upcut : ByteArray := prog_6_method_21_code
def yX4_upcut : MethodName := ⟨RX4, "upcut", "(I)I"⟩
abbrev cX4_teeth : ByteArray := prog_6_method_22_code
def yX4_teeth : MethodName := ⟨RX4, "teeth", "(I)I"⟩
abbrev cX4_isNoTooth : ByteArray := prog_6_method_23_code
def yX4_isNoTooth : MethodName := ⟨RX4, "isNoTooth", "(II)Z"⟩
abbrev cX4_place : ByteArray := prog_6_method_24_code
def yX4_place : MethodName := ⟨RX4, "place", "(II)I"⟩
abbrev cX4_height : ByteArray := prog_6_method_25_code
def yX4_height : MethodName := ⟨RX4, "height", "(II)I"⟩
abbrev cX4_wear : ByteArray := prog_6_method_26_code
def yX4_wear : MethodName := ⟨RX4, "wear", "(II)I"⟩
abbrev cX4_sings : ByteArray := prog_6_method_27_code
def yX4_sings : MethodName := ⟨RX4, "sings", "(I)Z"⟩
abbrev cX4_set : ByteArray := prog_6_method_28_code
def yX4_set : MethodName := ⟨RX4, "set", "(II)I"⟩
abbrev cX4_kerf : ByteArray := prog_6_method_29_code
def yX4_kerf : MethodName := ⟨RX4, "kerf", "(I)I"⟩
abbrev cX4_gullets : ByteArray := prog_6_method_30_code
def yX4_gullets : MethodName := ⟨RX4, "gullets", "(I)I"⟩
abbrev cX4_thickness : ByteArray := prog_6_method_31_code
def yX4_thickness : MethodName := ⟨RX4, "thickness", "(I)I"⟩
abbrev cX4_state : ByteArray := prog_6_method_32_code
def yX4_state : MethodName := ⟨RX4, "state", "(I)C"⟩
abbrev cX4_harden : ByteArray := prog_6_method_33_code
def yX4_harden : MethodName := ⟨RX4, "harden", "(IIC)I"⟩
abbrev cX4_hardness : ByteArray := prog_6_method_34_code
def yX4_hardness : MethodName := ⟨RX4, "hardness", "(I)I"⟩
abbrev cX4_bend : ByteArray := prog_6_method_35_code
def yX4_bend : MethodName := ⟨RX4, "bend", "(I)I"⟩
abbrev cX4_temper : ByteArray := prog_6_method_36_code
def yX4_temper : MethodName := ⟨RX4, "temper", "(II)I"⟩
abbrev cX4_straighten : ByteArray := prog_6_method_37_code
def yX4_straighten : MethodName := ⟨RX4, "straighten", "(II)I"⟩
abbrev cX4_seed : ByteArray := prog_6_method_38_code
def yX4_seed : MethodName := ⟨RX4, "seed", "(I)I"⟩
abbrev cX4_stroke : ByteArray := prog_6_method_39_code
def yX4_stroke : MethodName := ⟨RX4, "stroke", "(II)I"⟩
abbrev cX4_strokes : ByteArray := prog_6_method_40_code
def yX4_strokes : MethodName := ⟨RX4, "strokes", "(III)I"⟩
abbrev cX4_chips : ByteArray := prog_6_method_41_code
def yX4_chips : MethodName := ⟨RX4, "chips", "(I)I"⟩
abbrev cX4_brush : ByteArray := prog_6_method_42_code
def yX4_brush : MethodName := ⟨RX4, "brush", "(I)I"⟩
abbrev cX4_work : ByteArray := prog_6_method_43_code
def yX4_work : MethodName := ⟨RX4, "work", "(I)I"⟩
abbrev cX4_soften : ByteArray := prog_6_method_44_code
def yX4_soften : MethodName := ⟨RX4, "soften", "(I)I"⟩
abbrev cX4_grind : ByteArray := prog_6_method_45_code
def yX4_grind : MethodName := ⟨RX4, "grind", "(I)I"⟩
abbrev cX4_recuts : ByteArray := prog_6_method_46_code
def yX4_recuts : MethodName := ⟨RX4, "recuts", "(I)I"⟩
abbrev cX4_recutsLeft : ByteArray := prog_6_method_47_code
def yX4_recutsLeft : MethodName := ⟨RX4, "recutsLeft", "(IC)I"⟩
abbrev cX4_order : ByteArray := prog_6_method_48_code
def yX4_order : MethodName := ⟨RX4, "order", "(CCI)I"⟩
abbrev cX4_isNoOrder : ByteArray := prog_6_method_49_code
def yX4_isNoOrder : MethodName := ⟨RX4, "isNoOrder", "(I)Z"⟩
abbrev cX4_fits : ByteArray := prog_6_method_50_code
def yX4_fits : MethodName := ⟨RX4, "fits", "(II)Z"⟩
abbrev cX4_isGood : ByteArray := prog_6_method_51_code
def yX4_isGood : MethodName := ⟨RX4, "isGood", "(II)Z"⟩
abbrev cX4_send : ByteArray := prog_6_method_52_code
def yX4_send : MethodName := ⟨RX4, "send", "(II)I"⟩
abbrev cX4_sent : ByteArray := prog_6_method_53_code
def yX4_sent : MethodName := ⟨RX4, "sent", "(I)I"⟩
abbrev cX4_wornShare : ByteArray := prog_6_method_54_code
def yX4_wornShare : MethodName := ⟨RX4, "wornShare", "()F"⟩
abbrev cX4_meanHardness : ByteArray := prog_6_method_55_code
def yX4_meanHardness : MethodName := ⟨RX4, "meanHardness", "()D"⟩
abbrev cX4_checksum : ByteArray := prog_6_method_56_code
def yX4_checksum : MethodName := ⟨RX4, "checksum", "()J"⟩
abbrev cX4_isSound : ByteArray := prog_6_method_57_code
def yX4_isSound : MethodName := ⟨RX4, "isSound", "()Z"⟩
def RL : String := "TeethrowLaw"
abbrev cL_blank : ByteArray := method_3_code
def yL_blank : MethodName := ⟨RL, "blank", "(LTeethrow;CIII[J)I"⟩
abbrev cL_cut : ByteArray := method_4_code
def yL_cut : MethodName := ⟨RL, "cut", "(LTeethrow;ICI[J)I"⟩
abbrev cL_upcut : ByteArray := method_5_code
def yL_upcut : MethodName := ⟨RL, "upcut", "(LTeethrow;I[J)I"⟩
abbrev cL_teeth : ByteArray := method_6_code
def yL_teeth : MethodName := ⟨RL, "teeth", "(LTeethrow;I[J)I"⟩
abbrev cL_place : ByteArray := method_7_code
def yL_place : MethodName := ⟨RL, "place", "(LTeethrow;II[J)I"⟩
abbrev cL_height : ByteArray := method_8_code
def yL_height : MethodName := ⟨RL, "height", "(LTeethrow;II[J)I"⟩
abbrev cL_wear : ByteArray := method_9_code
def yL_wear : MethodName := ⟨RL, "wear", "(LTeethrow;II[J)I"⟩
abbrev cL_sings : ByteArray := method_10_code
def yL_sings : MethodName := ⟨RL, "sings", "(LTeethrow;I[J)I"⟩
abbrev cL_set : ByteArray := method_11_code
def yL_set : MethodName := ⟨RL, "set", "(LTeethrow;II[J)I"⟩
abbrev cL_kerf : ByteArray := method_12_code
def yL_kerf : MethodName := ⟨RL, "kerf", "(LTeethrow;I[J)I"⟩
abbrev cL_gullets : ByteArray := method_13_code
def yL_gullets : MethodName := ⟨RL, "gullets", "(LTeethrow;I[J)I"⟩
abbrev cL_thickness : ByteArray := method_14_code
def yL_thickness : MethodName := ⟨RL, "thickness", "(LTeethrow;I[J)I"⟩
abbrev cL_state : ByteArray := method_15_code
def yL_state : MethodName := ⟨RL, "state", "(LTeethrow;I[J)I"⟩
abbrev cL_harden : ByteArray := method_16_code
def yL_harden : MethodName := ⟨RL, "harden", "(LTeethrow;IIC[J)I"⟩
abbrev cL_hardness : ByteArray := method_17_code
def yL_hardness : MethodName := ⟨RL, "hardness", "(LTeethrow;I[J)I"⟩
abbrev cL_bend : ByteArray := method_18_code
def yL_bend : MethodName := ⟨RL, "bend", "(LTeethrow;I[J)I"⟩
abbrev cL_temper : ByteArray := method_19_code
def yL_temper : MethodName := ⟨RL, "temper", "(LTeethrow;II[J)I"⟩
abbrev cL_straighten : ByteArray := method_20_code
def yL_straighten : MethodName := ⟨RL, "straighten", "(LTeethrow;II[J)I"⟩
abbrev cL_seed : ByteArray := method_21_code
def yL_seed : MethodName := ⟨RL, "seed", "(LTeethrow;I[J)I"⟩
abbrev cL_strokes : ByteArray := method_22_code
def yL_strokes : MethodName := ⟨RL, "strokes", "(LTeethrow;III[J)I"⟩
abbrev cL_chips : ByteArray := method_23_code
def yL_chips : MethodName := ⟨RL, "chips", "(LTeethrow;I[J)I"⟩
abbrev cL_brush : ByteArray := method_24_code
def yL_brush : MethodName := ⟨RL, "brush", "(LTeethrow;I[J)I"⟩
abbrev cL_work : ByteArray := method_25_code
def yL_work : MethodName := ⟨RL, "work", "(LTeethrow;I[J)I"⟩
abbrev cL_soften : ByteArray := method_26_code
def yL_soften : MethodName := ⟨RL, "soften", "(LTeethrow;I[J)I"⟩
abbrev cL_grind : ByteArray := method_27_code
def yL_grind : MethodName := ⟨RL, "grind", "(LTeethrow;I[J)I"⟩
abbrev cL_recuts : ByteArray := method_28_code
def yL_recuts : MethodName := ⟨RL, "recuts", "(LTeethrow;I[J)I"⟩
abbrev cL_recutsLeft : ByteArray := method_29_code
def yL_recutsLeft : MethodName := ⟨RL, "recutsLeft", "(LTeethrow;IC[J)I"⟩
abbrev cL_order : ByteArray := method_30_code
def yL_order : MethodName := ⟨RL, "order", "(LTeethrow;CCI[J)I"⟩
abbrev cL_isGood : ByteArray := method_31_code
def yL_isGood : MethodName := ⟨RL, "isGood", "(LTeethrow;II[J)I"⟩
abbrev cL_send : ByteArray := method_32_code
def yL_send : MethodName := ⟨RL, "send", "(LTeethrow;II[J)I"⟩
abbrev cL_sent : ByteArray := method_33_code
def yL_sent : MethodName := ⟨RL, "sent", "(LTeethrow;I[J)I"⟩
abbrev cL_wornShare : ByteArray := method_34_code
def yL_wornShare : MethodName := ⟨RL, "wornShare", "(LTeethrow;[D)I"⟩
abbrev cL_meanHardness : ByteArray := method_35_code
def yL_meanHardness : MethodName := ⟨RL, "meanHardness", "(LTeethrow;[D)I"⟩
abbrev cL_law : ByteArray := code
def yL_law : MethodName := ⟨RL, "law", "([I)Z"⟩
theorem dX0_init_0 : decode cX0_init 0 = .ok (.aload_n 0, 1) := by decide +kernel
theorem dX0_init_1 : decode cX0_init 1 = .ok (.invokespecial 3, 3) := by decide +kernel
theorem dX0_init_4 : decode cX0_init 4 = .ok (.aload_n 0, 1) := by decide +kernel
theorem dX0_init_5 : decode cX0_init 5 = .ok (.iload_n 1, 1) := by decide +kernel
theorem dX0_init_6 : decode cX0_init 6 = .ok (.putfield 9, 3) := by decide +kernel
theorem dX0_init_9 : decode cX0_init 9 = .ok (.aload_n 0, 1) := by decide +kernel
theorem dX0_init_10 : decode cX0_init 10 = .ok (.iload_n 2, 1) := by decide +kernel
theorem dX0_init_11 : decode cX0_init 11 = .ok (.putfield 15, 3) := by decide +kernel
theorem dX0_init_14 : decode cX0_init 14 = .ok (.aload_n 0, 1) := by decide +kernel
theorem dX0_init_15 : decode cX0_init 15 = .ok (.iload_n 3, 1) := by decide +kernel
theorem dX0_init_16 : decode cX0_init 16 = .ok (.putfield 18, 3) := by decide +kernel
theorem dX0_init_19 : decode cX0_init 19 = .ok (.return_, 1) := by decide +kernel
theorem dX0_takes_0 : decode cX0_takes 0 = .ok (.aload_n 1, 1) := by decide +kernel
theorem dX0_takes_1 : decode cX0_takes 1 = .ok (.getfield 22, 3) := by decide +kernel
theorem dX0_takes_4 : decode cX0_takes 4 = .ok (.aload_n 0, 1) := by decide +kernel
theorem dX0_takes_5 : decode cX0_takes 5 = .ok (.getfield 9, 3) := by decide +kernel
theorem dX0_takes_8 : decode cX0_takes 8 = .ok (.if_icmp .ne 67, 3) := by decide +kernel
theorem dX0_takes_11 : decode cX0_takes 11 = .ok (.aload_n 1, 1) := by decide +kernel
theorem dX0_takes_12 : decode cX0_takes 12 = .ok (.getfield 25, 3) := by decide +kernel
theorem dX0_takes_15 : decode cX0_takes 15 = .ok (.getfield 29, 3) := by decide +kernel
theorem dX0_takes_18 : decode cX0_takes 18 = .ok (.aload_n 0, 1) := by decide +kernel
theorem dX0_takes_19 : decode cX0_takes 19 = .ok (.getfield 15, 3) := by decide +kernel
theorem dX0_takes_22 : decode cX0_takes 22 = .ok (.if_icmp .ne 53, 3) := by decide +kernel
theorem dX0_takes_25 : decode cX0_takes 25 = .ok (.aload_n 1, 1) := by decide +kernel
theorem dX0_takes_26 : decode cX0_takes 26 = .ok (.getfield 32, 3) := by decide +kernel
theorem dX0_takes_29 : decode cX0_takes 29 = .ok (.bipush 104, 2) := by decide +kernel
theorem dX0_takes_31 : decode cX0_takes 31 = .ok (.if_icmp .ne 44, 3) := by decide +kernel
theorem dX0_takes_34 : decode cX0_takes 34 = .ok (.aload_n 1, 1) := by decide +kernel
theorem dX0_takes_35 : decode cX0_takes 35 = .ok (.getfield 35, 3) := by decide +kernel
theorem dX0_takes_38 : decode cX0_takes 38 = .ok (.bipush 50, 2) := by decide +kernel
theorem dX0_takes_40 : decode cX0_takes 40 = .ok (.if_icmp .lt 35, 3) := by decide +kernel
theorem dX0_takes_43 : decode cX0_takes 43 = .ok (.aload_n 1, 1) := by decide +kernel
theorem dX0_takes_44 : decode cX0_takes 44 = .ok (.getfield 38, 3) := by decide +kernel
theorem dX0_takes_47 : decode cX0_takes 47 = .ok (.iconst 3, 1) := by decide +kernel
theorem dX0_takes_48 : decode cX0_takes 48 = .ok (.if_icmp .gt 27, 3) := by decide +kernel
theorem dX0_takes_51 : decode cX0_takes 51 = .ok (.aload_n 1, 1) := by decide +kernel
theorem dX0_takes_52 : decode cX0_takes 52 = .ok (.getfield 25, 3) := by decide +kernel
theorem dX0_takes_55 : decode cX0_takes 55 = .ok (.invokevirtual 41, 3) := by decide +kernel
theorem dX0_takes_58 : decode cX0_takes 58 = .ok (.ifCond .ne 17, 3) := by decide +kernel
theorem dX0_takes_61 : decode cX0_takes 61 = .ok (.aload_n 1, 1) := by decide +kernel
theorem dX0_takes_62 : decode cX0_takes 62 = .ok (.getfield 25, 3) := by decide +kernel
theorem dX0_takes_65 : decode cX0_takes 65 = .ok (.invokevirtual 45, 3) := by decide +kernel
theorem dX0_takes_68 : decode cX0_takes 68 = .ok (.ifCond .eq 7, 3) := by decide +kernel
theorem dX0_takes_71 : decode cX0_takes 71 = .ok (.iconst 1, 1) := by decide +kernel
theorem dX0_takes_72 : decode cX0_takes 72 = .ok (.goto 4, 3) := by decide +kernel
theorem dX0_takes_75 : decode cX0_takes 75 = .ok (.iconst 0, 1) := by decide +kernel
theorem dX0_takes_76 : decode cX0_takes 76 = .ok (.ireturn, 1) := by decide +kernel
theorem dX1_init_0 : decode cX1_init 0 = .ok (.aload_n 0, 1) := by decide +kernel
theorem dX1_init_1 : decode cX1_init 1 = .ok (.invokespecial 3, 3) := by decide +kernel
theorem dX1_init_4 : decode cX1_init 4 = .ok (.aload_n 0, 1) := by decide +kernel
theorem dX1_init_5 : decode cX1_init 5 = .ok (.bipush 60, 2) := by decide +kernel
theorem dX1_init_7 : decode cX1_init 7 = .ok (.newarray .int, 2) := by decide +kernel
theorem dX1_init_9 : decode cX1_init 9 = .ok (.putfield 9, 3) := by decide +kernel
theorem dX1_init_12 : decode cX1_init 12 = .ok (.aload_n 0, 1) := by decide +kernel
theorem dX1_init_13 : decode cX1_init 13 = .ok (.bipush 60, 2) := by decide +kernel
theorem dX1_init_15 : decode cX1_init 15 = .ok (.newarray .int, 2) := by decide +kernel
theorem dX1_init_17 : decode cX1_init 17 = .ok (.putfield 15, 3) := by decide +kernel
theorem dX1_init_20 : decode cX1_init 20 = .ok (.aload_n 0, 1) := by decide +kernel
theorem dX1_init_21 : decode cX1_init 21 = .ok (.bipush 60, 2) := by decide +kernel
theorem dX1_init_23 : decode cX1_init 23 = .ok (.newarray .int, 2) := by decide +kernel
theorem dX1_init_25 : decode cX1_init 25 = .ok (.putfield 18, 3) := by decide +kernel
theorem dX1_init_28 : decode cX1_init 28 = .ok (.return_, 1) := by decide +kernel
theorem dX1_fill_0 : decode cX1_fill 0 = .ok (.aload_n 0, 1) := by decide +kernel
theorem dX1_fill_1 : decode cX1_fill 1 = .ok (.iload_n 1, 1) := by decide +kernel
theorem dX1_fill_2 : decode cX1_fill 2 = .ok (.putfield 21, 3) := by decide +kernel
theorem dX1_fill_5 : decode cX1_fill 5 = .ok (.aload_n 0, 1) := by decide +kernel
theorem dX1_fill_6 : decode cX1_fill 6 = .ok (.iload_n 2, 1) := by decide +kernel
theorem dX1_fill_7 : decode cX1_fill 7 = .ok (.putfield 25, 3) := by decide +kernel
theorem dX1_fill_10 : decode cX1_fill 10 = .ok (.aload_n 0, 1) := by decide +kernel
theorem dX1_fill_11 : decode cX1_fill 11 = .ok (.iload_n 3, 1) := by decide +kernel
theorem dX1_fill_12 : decode cX1_fill 12 = .ok (.putfield 29, 3) := by decide +kernel
theorem dX1_fill_15 : decode cX1_fill 15 = .ok (.aload_n 0, 1) := by decide +kernel
theorem dX1_fill_16 : decode cX1_fill 16 = .ok (.iconst 0, 1) := by decide +kernel
theorem dX1_fill_17 : decode cX1_fill 17 = .ok (.putfield 32, 3) := by decide +kernel
theorem dX1_fill_20 : decode cX1_fill 20 = .ok (.aload_n 0, 1) := by decide +kernel
theorem dX1_fill_21 : decode cX1_fill 21 = .ok (.iconst 0, 1) := by decide +kernel
theorem dX1_fill_22 : decode cX1_fill 22 = .ok (.putfield 36, 3) := by decide +kernel
theorem dX1_fill_25 : decode cX1_fill 25 = .ok (.iconst 0, 1) := by decide +kernel
theorem dX1_fill_26 : decode cX1_fill 26 = .ok (.istore 5, 2) := by decide +kernel
theorem dX1_fill_28 : decode cX1_fill 28 = .ok (.iconst 0, 1) := by decide +kernel
theorem dX1_fill_29 : decode cX1_fill 29 = .ok (.istore 6, 2) := by decide +kernel
theorem dX1_fill_31 : decode cX1_fill 31 = .ok (.iload 6, 2) := by decide +kernel
theorem dX1_fill_33 : decode cX1_fill 33 = .ok (.bipush 60, 2) := by decide +kernel
theorem dX1_fill_35 : decode cX1_fill 35 = .ok (.if_icmp .ge 63, 3) := by decide +kernel
theorem dX1_fill_38 : decode cX1_fill 38 = .ok (.iload 5, 2) := by decide +kernel
theorem dX1_fill_40 : decode cX1_fill 40 = .ok (.iload 4, 2) := by decide +kernel
theorem dX1_fill_42 : decode cX1_fill 42 = .ok (.if_icmp .ge 56, 3) := by decide +kernel
theorem dX1_fill_45 : decode cX1_fill 45 = .ok (.aload_n 0, 1) := by decide +kernel
theorem dX1_fill_46 : decode cX1_fill 46 = .ok (.getfield 9, 3) := by decide +kernel
theorem dX1_fill_49 : decode cX1_fill 49 = .ok (.iload 6, 2) := by decide +kernel
theorem dX1_fill_51 : decode cX1_fill 51 = .ok (.iload 5, 2) := by decide +kernel
theorem dX1_fill_53 : decode cX1_fill 53 = .ok (.iastore, 1) := by decide +kernel
theorem dX1_fill_54 : decode cX1_fill 54 = .ok (.aload_n 0, 1) := by decide +kernel
theorem dX1_fill_55 : decode cX1_fill 55 = .ok (.getfield 15, 3) := by decide +kernel
theorem dX1_fill_58 : decode cX1_fill 58 = .ok (.iload 6, 2) := by decide +kernel
theorem dX1_fill_60 : decode cX1_fill 60 = .ok (.aload_n 0, 1) := by decide +kernel
theorem dX1_fill_61 : decode cX1_fill 61 = .ok (.getfield 25, 3) := by decide +kernel
theorem dX1_fill_64 : decode cX1_fill 64 = .ok (.iastore, 1) := by decide +kernel
theorem dX1_fill_65 : decode cX1_fill 65 = .ok (.aload_n 0, 1) := by decide +kernel
theorem dX1_fill_66 : decode cX1_fill 66 = .ok (.getfield 18, 3) := by decide +kernel
theorem dX1_fill_69 : decode cX1_fill 69 = .ok (.iload 6, 2) := by decide +kernel
theorem dX1_fill_71 : decode cX1_fill 71 = .ok (.iconst 0, 1) := by decide +kernel
theorem dX1_fill_72 : decode cX1_fill 72 = .ok (.iastore, 1) := by decide +kernel
theorem dX1_fill_73 : decode cX1_fill 73 = .ok (.aload_n 0, 1) := by decide +kernel
theorem dX1_fill_74 : decode cX1_fill 74 = .ok (.iload 6, 2) := by decide +kernel
theorem dX1_fill_76 : decode cX1_fill 76 = .ok (.iconst 1, 1) := by decide +kernel
theorem dX1_fill_77 : decode cX1_fill 77 = .ok (.iadd, 1) := by decide +kernel
theorem dX1_fill_78 : decode cX1_fill 78 = .ok (.putfield 36, 3) := by decide +kernel
theorem dX1_fill_81 : decode cX1_fill 81 = .ok (.iload 5, 2) := by decide +kernel
theorem dX1_fill_83 : decode cX1_fill 83 = .ok (.aload_n 0, 1) := by decide +kernel
theorem dX1_fill_84 : decode cX1_fill 84 = .ok (.iload 6, 2) := by decide +kernel
theorem dX1_fill_86 : decode cX1_fill 86 = .ok (.invokevirtual 39, 3) := by decide +kernel
theorem dX1_fill_89 : decode cX1_fill 89 = .ok (.iadd, 1) := by decide +kernel
theorem dX1_fill_90 : decode cX1_fill 90 = .ok (.istore 5, 2) := by decide +kernel
theorem dX1_fill_92 : decode cX1_fill 92 = .ok (.iinc 6 1, 3) := by decide +kernel
theorem dX1_fill_95 : decode cX1_fill 95 = .ok (.goto (-64), 3) := by decide +kernel
theorem dX1_fill_98 : decode cX1_fill 98 = .ok (.return_, 1) := by decide +kernel
theorem dX1_clear_0 : decode cX1_clear 0 = .ok (.aload_n 0, 1) := by decide +kernel
theorem dX1_clear_1 : decode cX1_clear 1 = .ok (.iconst 0, 1) := by decide +kernel
theorem dX1_clear_2 : decode cX1_clear 2 = .ok (.putfield 25, 3) := by decide +kernel
theorem dX1_clear_5 : decode cX1_clear 5 = .ok (.aload_n 0, 1) := by decide +kernel
theorem dX1_clear_6 : decode cX1_clear 6 = .ok (.iconst 0, 1) := by decide +kernel
theorem dX1_clear_7 : decode cX1_clear 7 = .ok (.putfield 36, 3) := by decide +kernel
theorem dX1_clear_10 : decode cX1_clear 10 = .ok (.aload_n 0, 1) := by decide +kernel
theorem dX1_clear_11 : decode cX1_clear 11 = .ok (.iconst 0, 1) := by decide +kernel
theorem dX1_clear_12 : decode cX1_clear 12 = .ok (.putfield 32, 3) := by decide +kernel
theorem dX1_clear_15 : decode cX1_clear 15 = .ok (.return_, 1) := by decide +kernel
theorem dX1_become_0 : decode cX1_become 0 = .ok (.aload_n 0, 1) := by decide +kernel
theorem dX1_become_1 : decode cX1_become 1 = .ok (.aload_n 1, 1) := by decide +kernel
theorem dX1_become_2 : decode cX1_become 2 = .ok (.getfield 21, 3) := by decide +kernel
theorem dX1_become_5 : decode cX1_become 5 = .ok (.putfield 21, 3) := by decide +kernel
theorem dX1_become_8 : decode cX1_become 8 = .ok (.aload_n 0, 1) := by decide +kernel
theorem dX1_become_9 : decode cX1_become 9 = .ok (.aload_n 1, 1) := by decide +kernel
theorem dX1_become_10 : decode cX1_become 10 = .ok (.getfield 25, 3) := by decide +kernel
theorem dX1_become_13 : decode cX1_become 13 = .ok (.putfield 25, 3) := by decide +kernel
theorem dX1_become_16 : decode cX1_become 16 = .ok (.aload_n 0, 1) := by decide +kernel
theorem dX1_become_17 : decode cX1_become 17 = .ok (.aload_n 1, 1) := by decide +kernel
theorem dX1_become_18 : decode cX1_become 18 = .ok (.getfield 29, 3) := by decide +kernel
theorem dX1_become_21 : decode cX1_become 21 = .ok (.putfield 29, 3) := by decide +kernel
theorem dX1_become_24 : decode cX1_become 24 = .ok (.aload_n 0, 1) := by decide +kernel
theorem dX1_become_25 : decode cX1_become 25 = .ok (.aload_n 1, 1) := by decide +kernel
theorem dX1_become_26 : decode cX1_become 26 = .ok (.getfield 36, 3) := by decide +kernel
theorem dX1_become_29 : decode cX1_become 29 = .ok (.putfield 36, 3) := by decide +kernel
theorem dX1_become_32 : decode cX1_become 32 = .ok (.aload_n 0, 1) := by decide +kernel
theorem dX1_become_33 : decode cX1_become 33 = .ok (.aload_n 1, 1) := by decide +kernel
theorem dX1_become_34 : decode cX1_become 34 = .ok (.getfield 32, 3) := by decide +kernel
theorem dX1_become_37 : decode cX1_become 37 = .ok (.putfield 32, 3) := by decide +kernel
theorem dX1_become_40 : decode cX1_become 40 = .ok (.aload_n 1, 1) := by decide +kernel
theorem dX1_become_41 : decode cX1_become 41 = .ok (.getfield 9, 3) := by decide +kernel
theorem dX1_become_44 : decode cX1_become 44 = .ok (.iconst 0, 1) := by decide +kernel
theorem dX1_become_45 : decode cX1_become 45 = .ok (.aload_n 0, 1) := by decide +kernel
theorem dX1_become_46 : decode cX1_become 46 = .ok (.getfield 9, 3) := by decide +kernel
theorem dX1_become_49 : decode cX1_become 49 = .ok (.iconst 0, 1) := by decide +kernel
theorem dX1_become_50 : decode cX1_become 50 = .ok (.bipush 60, 2) := by decide +kernel
theorem dX1_become_52 : decode cX1_become 52 = .ok (.invokestatic 43, 3) := by decide +kernel
theorem dX1_become_55 : decode cX1_become 55 = .ok (.aload_n 1, 1) := by decide +kernel
theorem dX1_become_56 : decode cX1_become 56 = .ok (.getfield 15, 3) := by decide +kernel
theorem dX1_become_59 : decode cX1_become 59 = .ok (.iconst 0, 1) := by decide +kernel
theorem dX1_become_60 : decode cX1_become 60 = .ok (.aload_n 0, 1) := by decide +kernel
theorem dX1_become_61 : decode cX1_become 61 = .ok (.getfield 15, 3) := by decide +kernel
theorem dX1_become_64 : decode cX1_become 64 = .ok (.iconst 0, 1) := by decide +kernel
theorem dX1_become_65 : decode cX1_become 65 = .ok (.bipush 60, 2) := by decide +kernel
theorem dX1_become_67 : decode cX1_become 67 = .ok (.invokestatic 43, 3) := by decide +kernel
theorem dX1_become_70 : decode cX1_become 70 = .ok (.aload_n 1, 1) := by decide +kernel
theorem dX1_become_71 : decode cX1_become 71 = .ok (.getfield 18, 3) := by decide +kernel
theorem dX1_become_74 : decode cX1_become 74 = .ok (.iconst 0, 1) := by decide +kernel
theorem dX1_become_75 : decode cX1_become 75 = .ok (.aload_n 0, 1) := by decide +kernel
theorem dX1_become_76 : decode cX1_become 76 = .ok (.getfield 18, 3) := by decide +kernel
theorem dX1_become_79 : decode cX1_become 79 = .ok (.iconst 0, 1) := by decide +kernel
theorem dX1_become_80 : decode cX1_become 80 = .ok (.bipush 60, 2) := by decide +kernel
theorem dX1_become_82 : decode cX1_become 82 = .ok (.invokestatic 43, 3) := by decide +kernel
theorem dX1_become_85 : decode cX1_become 85 = .ok (.return_, 1) := by decide +kernel
theorem dX1_stepBehind_0 : decode cX1_stepBehind 0 = .ok (.aload_n 0, 1) := by decide +kernel
theorem dX1_stepBehind_1 : decode cX1_stepBehind 1 = .ok (.getfield 21, 3) := by decide +kernel
theorem dX1_stepBehind_4 : decode cX1_stepBehind 4 = .ok (.invokestatic 49, 3) := by decide +kernel
theorem dX1_stepBehind_7 : decode cX1_stepBehind 7 = .ok (.aload_n 0, 1) := by decide +kernel
theorem dX1_stepBehind_8 : decode cX1_stepBehind 8 = .ok (.getfield 29, 3) := by decide +kernel
theorem dX1_stepBehind_11 : decode cX1_stepBehind 11 = .ok (.iload_n 1, 1) := by decide +kernel
theorem dX1_stepBehind_12 : decode cX1_stepBehind 12 = .ok (.iconst 3, 1) := by decide +kernel
theorem dX1_stepBehind_13 : decode cX1_stepBehind 13 = .ok (.irem, 1) := by decide +kernel
theorem dX1_stepBehind_14 : decode cX1_stepBehind 14 = .ok (.imul, 1) := by decide +kernel
theorem dX1_stepBehind_15 : decode cX1_stepBehind 15 = .ok (.iadd, 1) := by decide +kernel
theorem dX1_stepBehind_16 : decode cX1_stepBehind 16 = .ok (.ireturn, 1) := by decide +kernel
theorem dX1_lowerAll_0 : decode cX1_lowerAll 0 = .ok (.aload_n 0, 1) := by decide +kernel
theorem dX1_lowerAll_1 : decode cX1_lowerAll 1 = .ok (.iconst 1, 1) := by decide +kernel
theorem dX1_lowerAll_2 : decode cX1_lowerAll 2 = .ok (.putfield 32, 3) := by decide +kernel
theorem dX1_lowerAll_5 : decode cX1_lowerAll 5 = .ok (.iconst 0, 1) := by decide +kernel
theorem dX1_lowerAll_6 : decode cX1_lowerAll 6 = .ok (.istore_n 1, 1) := by decide +kernel
theorem dX1_lowerAll_7 : decode cX1_lowerAll 7 = .ok (.iload_n 1, 1) := by decide +kernel
theorem dX1_lowerAll_8 : decode cX1_lowerAll 8 = .ok (.aload_n 0, 1) := by decide +kernel
theorem dX1_lowerAll_9 : decode cX1_lowerAll 9 = .ok (.getfield 36, 3) := by decide +kernel
theorem dX1_lowerAll_12 : decode cX1_lowerAll 12 = .ok (.if_icmp .ge 27, 3) := by decide +kernel
theorem dX1_lowerAll_15 : decode cX1_lowerAll 15 = .ok (.aload_n 0, 1) := by decide +kernel
theorem dX1_lowerAll_16 : decode cX1_lowerAll 16 = .ok (.getfield 15, 3) := by decide +kernel
theorem dX1_lowerAll_19 : decode cX1_lowerAll 19 = .ok (.iload_n 1, 1) := by decide +kernel
theorem dX1_lowerAll_20 : decode cX1_lowerAll 20 = .ok (.iconst 0, 1) := by decide +kernel
theorem dX1_lowerAll_21 : decode cX1_lowerAll 21 = .ok (.aload_n 0, 1) := by decide +kernel
theorem dX1_lowerAll_22 : decode cX1_lowerAll 22 = .ok (.getfield 15, 3) := by decide +kernel
theorem dX1_lowerAll_25 : decode cX1_lowerAll 25 = .ok (.iload_n 1, 1) := by decide +kernel
theorem dX1_lowerAll_26 : decode cX1_lowerAll 26 = .ok (.iaload, 1) := by decide +kernel
theorem dX1_lowerAll_27 : decode cX1_lowerAll 27 = .ok (.iconst 1, 1) := by decide +kernel
theorem dX1_lowerAll_28 : decode cX1_lowerAll 28 = .ok (.isub, 1) := by decide +kernel
theorem dX1_lowerAll_29 : decode cX1_lowerAll 29 = .ok (.invokestatic 53, 3) := by decide +kernel
theorem dX1_lowerAll_32 : decode cX1_lowerAll 32 = .ok (.iastore, 1) := by decide +kernel
theorem dX1_lowerAll_33 : decode cX1_lowerAll 33 = .ok (.iinc 1 1, 3) := by decide +kernel
theorem dX1_lowerAll_36 : decode cX1_lowerAll 36 = .ok (.goto (-29), 3) := by decide +kernel
theorem dX1_lowerAll_39 : decode cX1_lowerAll 39 = .ok (.return_, 1) := by decide +kernel
theorem dX1_highest_0 : decode cX1_highest 0 = .ok (.iconst 0, 1) := by decide +kernel
theorem dX1_highest_1 : decode cX1_highest 1 = .ok (.istore_n 1, 1) := by decide +kernel
theorem dX1_highest_2 : decode cX1_highest 2 = .ok (.iconst 0, 1) := by decide +kernel
theorem dX1_highest_3 : decode cX1_highest 3 = .ok (.istore_n 2, 1) := by decide +kernel
theorem dX1_highest_4 : decode cX1_highest 4 = .ok (.iload_n 2, 1) := by decide +kernel
theorem dX1_highest_5 : decode cX1_highest 5 = .ok (.aload_n 0, 1) := by decide +kernel
theorem dX1_highest_6 : decode cX1_highest 6 = .ok (.getfield 36, 3) := by decide +kernel
theorem dX1_highest_9 : decode cX1_highest 9 = .ok (.if_icmp .ge 20, 3) := by decide +kernel
theorem dX1_highest_12 : decode cX1_highest 12 = .ok (.iload_n 1, 1) := by decide +kernel
theorem dX1_highest_13 : decode cX1_highest 13 = .ok (.aload_n 0, 1) := by decide +kernel
theorem dX1_highest_14 : decode cX1_highest 14 = .ok (.getfield 15, 3) := by decide +kernel
theorem dX1_highest_17 : decode cX1_highest 17 = .ok (.iload_n 2, 1) := by decide +kernel
theorem dX1_highest_18 : decode cX1_highest 18 = .ok (.iaload, 1) := by decide +kernel
theorem dX1_highest_19 : decode cX1_highest 19 = .ok (.invokestatic 53, 3) := by decide +kernel
theorem dX1_highest_22 : decode cX1_highest 22 = .ok (.istore_n 1, 1) := by decide +kernel
theorem dX1_highest_23 : decode cX1_highest 23 = .ok (.iinc 2 1, 3) := by decide +kernel
theorem dX1_highest_26 : decode cX1_highest 26 = .ok (.goto (-22), 3) := by decide +kernel
theorem dX1_highest_29 : decode cX1_highest 29 = .ok (.iload_n 1, 1) := by decide +kernel
theorem dX1_highest_30 : decode cX1_highest 30 = .ok (.ireturn, 1) := by decide +kernel
theorem dX1_isEven_0 : decode cX1_isEven 0 = .ok (.iconst 2, 1) := by decide +kernel
theorem dX1_isEven_1 : decode cX1_isEven 1 = .ok (.istore_n 1, 1) := by decide +kernel
theorem dX1_isEven_2 : decode cX1_isEven 2 = .ok (.iload_n 1, 1) := by decide +kernel
theorem dX1_isEven_3 : decode cX1_isEven 3 = .ok (.aload_n 0, 1) := by decide +kernel
theorem dX1_isEven_4 : decode cX1_isEven 4 = .ok (.getfield 36, 3) := by decide +kernel
theorem dX1_isEven_7 : decode cX1_isEven 7 = .ok (.if_icmp .ge 42, 3) := by decide +kernel
theorem dX1_isEven_10 : decode cX1_isEven 10 = .ok (.aload_n 0, 1) := by decide +kernel
theorem dX1_isEven_11 : decode cX1_isEven 11 = .ok (.getfield 9, 3) := by decide +kernel
theorem dX1_isEven_14 : decode cX1_isEven 14 = .ok (.iload_n 1, 1) := by decide +kernel
theorem dX1_isEven_15 : decode cX1_isEven 15 = .ok (.iaload, 1) := by decide +kernel
theorem dX1_isEven_16 : decode cX1_isEven 16 = .ok (.aload_n 0, 1) := by decide +kernel
theorem dX1_isEven_17 : decode cX1_isEven 17 = .ok (.getfield 9, 3) := by decide +kernel
theorem dX1_isEven_20 : decode cX1_isEven 20 = .ok (.iload_n 1, 1) := by decide +kernel
theorem dX1_isEven_21 : decode cX1_isEven 21 = .ok (.iconst 1, 1) := by decide +kernel
theorem dX1_isEven_22 : decode cX1_isEven 22 = .ok (.isub, 1) := by decide +kernel
theorem dX1_isEven_23 : decode cX1_isEven 23 = .ok (.iaload, 1) := by decide +kernel
theorem dX1_isEven_24 : decode cX1_isEven 24 = .ok (.isub, 1) := by decide +kernel
theorem dX1_isEven_25 : decode cX1_isEven 25 = .ok (.aload_n 0, 1) := by decide +kernel
theorem dX1_isEven_26 : decode cX1_isEven 26 = .ok (.getfield 9, 3) := by decide +kernel
theorem dX1_isEven_29 : decode cX1_isEven 29 = .ok (.iconst 1, 1) := by decide +kernel
theorem dX1_isEven_30 : decode cX1_isEven 30 = .ok (.iaload, 1) := by decide +kernel
theorem dX1_isEven_31 : decode cX1_isEven 31 = .ok (.aload_n 0, 1) := by decide +kernel
theorem dX1_isEven_32 : decode cX1_isEven 32 = .ok (.getfield 9, 3) := by decide +kernel
theorem dX1_isEven_35 : decode cX1_isEven 35 = .ok (.iconst 0, 1) := by decide +kernel
theorem dX1_isEven_36 : decode cX1_isEven 36 = .ok (.iaload, 1) := by decide +kernel
theorem dX1_isEven_37 : decode cX1_isEven 37 = .ok (.isub, 1) := by decide +kernel
theorem dX1_isEven_38 : decode cX1_isEven 38 = .ok (.if_icmp .eq 5, 3) := by decide +kernel
theorem dX1_isEven_41 : decode cX1_isEven 41 = .ok (.iconst 0, 1) := by decide +kernel
theorem dX1_isEven_42 : decode cX1_isEven 42 = .ok (.ireturn, 1) := by decide +kernel
theorem dX1_isEven_43 : decode cX1_isEven 43 = .ok (.iinc 1 1, 3) := by decide +kernel
theorem dX1_isEven_46 : decode cX1_isEven 46 = .ok (.goto (-44), 3) := by decide +kernel
theorem dX1_isEven_49 : decode cX1_isEven 49 = .ok (.aload_n 0, 1) := by decide +kernel
theorem dX1_isEven_50 : decode cX1_isEven 50 = .ok (.getfield 36, 3) := by decide +kernel
theorem dX1_isEven_53 : decode cX1_isEven 53 = .ok (.iconst 3, 1) := by decide +kernel
theorem dX1_isEven_54 : decode cX1_isEven 54 = .ok (.if_icmp .lt 7, 3) := by decide +kernel
theorem dX1_isEven_57 : decode cX1_isEven 57 = .ok (.iconst 1, 1) := by decide +kernel
theorem dX1_isEven_58 : decode cX1_isEven 58 = .ok (.goto 4, 3) := by decide +kernel
theorem dX1_isEven_61 : decode cX1_isEven 61 = .ok (.iconst 0, 1) := by decide +kernel
theorem dX1_isEven_62 : decode cX1_isEven 62 = .ok (.ireturn, 1) := by decide +kernel
theorem dX1_stroke_0 : decode cX1_stroke 0 = .ok (.iload_n 1, 1) := by decide +kernel
theorem dX1_stroke_1 : decode cX1_stroke 1 = .ok (.iload_n 2, 1) := by decide +kernel
theorem dX1_stroke_2 : decode cX1_stroke 2 = .ok (.invokestatic 59, 3) := by decide +kernel
theorem dX1_stroke_5 : decode cX1_stroke 5 = .ok (.istore 4, 2) := by decide +kernel
theorem dX1_stroke_7 : decode cX1_stroke 7 = .ok (.iconst 0, 1) := by decide +kernel
theorem dX1_stroke_8 : decode cX1_stroke 8 = .ok (.istore 5, 2) := by decide +kernel
theorem dX1_stroke_10 : decode cX1_stroke 10 = .ok (.iconst 0, 1) := by decide +kernel
theorem dX1_stroke_11 : decode cX1_stroke 11 = .ok (.istore 6, 2) := by decide +kernel
theorem dX1_stroke_13 : decode cX1_stroke 13 = .ok (.iload 6, 2) := by decide +kernel
theorem dX1_stroke_15 : decode cX1_stroke 15 = .ok (.aload_n 0, 1) := by decide +kernel
theorem dX1_stroke_16 : decode cX1_stroke 16 = .ok (.getfield 36, 3) := by decide +kernel
theorem dX1_stroke_19 : decode cX1_stroke 19 = .ok (.if_icmp .ge 49, 3) := by decide +kernel
theorem dX1_stroke_22 : decode cX1_stroke 22 = .ok (.iload 5, 2) := by decide +kernel
theorem dX1_stroke_24 : decode cX1_stroke 24 = .ok (.iload_n 3, 1) := by decide +kernel
theorem dX1_stroke_25 : decode cX1_stroke 25 = .ok (.if_icmp .ge 43, 3) := by decide +kernel
theorem dX1_stroke_28 : decode cX1_stroke 28 = .ok (.aload_n 0, 1) := by decide +kernel
theorem dX1_stroke_29 : decode cX1_stroke 29 = .ok (.getfield 15, 3) := by decide +kernel
theorem dX1_stroke_32 : decode cX1_stroke 32 = .ok (.iload 6, 2) := by decide +kernel
theorem dX1_stroke_34 : decode cX1_stroke 34 = .ok (.iaload, 1) := by decide +kernel
theorem dX1_stroke_35 : decode cX1_stroke 35 = .ok (.ifCond .le 27, 3) := by decide +kernel
theorem dX1_stroke_38 : decode cX1_stroke 38 = .ok (.iload 5, 2) := by decide +kernel
theorem dX1_stroke_40 : decode cX1_stroke 40 = .ok (.iload 4, 2) := by decide +kernel
theorem dX1_stroke_42 : decode cX1_stroke 42 = .ok (.aload_n 0, 1) := by decide +kernel
theorem dX1_stroke_43 : decode cX1_stroke 43 = .ok (.getfield 15, 3) := by decide +kernel
theorem dX1_stroke_46 : decode cX1_stroke 46 = .ok (.iload 6, 2) := by decide +kernel
theorem dX1_stroke_48 : decode cX1_stroke 48 = .ok (.iaload, 1) := by decide +kernel
theorem dX1_stroke_49 : decode cX1_stroke 49 = .ok (.invokestatic 62, 3) := by decide +kernel
theorem dX1_stroke_52 : decode cX1_stroke 52 = .ok (.iadd, 1) := by decide +kernel
theorem dX1_stroke_53 : decode cX1_stroke 53 = .ok (.istore 5, 2) := by decide +kernel
theorem dX1_stroke_55 : decode cX1_stroke 55 = .ok (.aload_n 0, 1) := by decide +kernel
theorem dX1_stroke_56 : decode cX1_stroke 56 = .ok (.iload 6, 2) := by decide +kernel
theorem dX1_stroke_58 : decode cX1_stroke 58 = .ok (.iload_n 2, 1) := by decide +kernel
theorem dX1_stroke_59 : decode cX1_stroke 59 = .ok (.invokevirtual 65, 3) := by decide +kernel
theorem dX1_stroke_62 : decode cX1_stroke 62 = .ok (.iinc 6 1, 3) := by decide +kernel
theorem dX1_stroke_65 : decode cX1_stroke 65 = .ok (.goto (-52), 3) := by decide +kernel
theorem dX1_stroke_68 : decode cX1_stroke 68 = .ok (.iload 5, 2) := by decide +kernel
theorem dX1_stroke_70 : decode cX1_stroke 70 = .ok (.ireturn, 1) := by decide +kernel
theorem dX1_wearTooth_0 : decode cX1_wearTooth 0 = .ok (.aload_n 0, 1) := by decide +kernel
theorem dX1_wearTooth_1 : decode cX1_wearTooth 1 = .ok (.getfield 18, 3) := by decide +kernel
theorem dX1_wearTooth_4 : decode cX1_wearTooth 4 = .ok (.iload_n 1, 1) := by decide +kernel
theorem dX1_wearTooth_5 : decode cX1_wearTooth 5 = .ok (.iaload, 1) := by decide +kernel
theorem dX1_wearTooth_6 : decode cX1_wearTooth 6 = .ok (.iload_n 2, 1) := by decide +kernel
theorem dX1_wearTooth_7 : decode cX1_wearTooth 7 = .ok (.iadd, 1) := by decide +kernel
theorem dX1_wearTooth_8 : decode cX1_wearTooth 8 = .ok (.istore_n 3, 1) := by decide +kernel
theorem dX1_wearTooth_9 : decode cX1_wearTooth 9 = .ok (.aload_n 0, 1) := by decide +kernel
theorem dX1_wearTooth_10 : decode cX1_wearTooth 10 = .ok (.getfield 15, 3) := by decide +kernel
theorem dX1_wearTooth_13 : decode cX1_wearTooth 13 = .ok (.iload_n 1, 1) := by decide +kernel
theorem dX1_wearTooth_14 : decode cX1_wearTooth 14 = .ok (.iconst 0, 1) := by decide +kernel
theorem dX1_wearTooth_15 : decode cX1_wearTooth 15 = .ok (.aload_n 0, 1) := by decide +kernel
theorem dX1_wearTooth_16 : decode cX1_wearTooth 16 = .ok (.getfield 15, 3) := by decide +kernel
theorem dX1_wearTooth_19 : decode cX1_wearTooth 19 = .ok (.iload_n 1, 1) := by decide +kernel
theorem dX1_wearTooth_20 : decode cX1_wearTooth 20 = .ok (.iaload, 1) := by decide +kernel
theorem dX1_wearTooth_21 : decode cX1_wearTooth 21 = .ok (.iload_n 3, 1) := by decide +kernel
theorem dX1_wearTooth_22 : decode cX1_wearTooth 22 = .ok (.bipush 100, 2) := by decide +kernel
theorem dX1_wearTooth_24 : decode cX1_wearTooth 24 = .ok (.idiv, 1) := by decide +kernel
theorem dX1_wearTooth_25 : decode cX1_wearTooth 25 = .ok (.isub, 1) := by decide +kernel
theorem dX1_wearTooth_26 : decode cX1_wearTooth 26 = .ok (.invokestatic 53, 3) := by decide +kernel
theorem dX1_wearTooth_29 : decode cX1_wearTooth 29 = .ok (.iastore, 1) := by decide +kernel
theorem dX1_wearTooth_30 : decode cX1_wearTooth 30 = .ok (.aload_n 0, 1) := by decide +kernel
theorem dX1_wearTooth_31 : decode cX1_wearTooth 31 = .ok (.getfield 18, 3) := by decide +kernel
theorem dX1_wearTooth_34 : decode cX1_wearTooth 34 = .ok (.iload_n 1, 1) := by decide +kernel
theorem dX1_wearTooth_35 : decode cX1_wearTooth 35 = .ok (.iload_n 3, 1) := by decide +kernel
theorem dX1_wearTooth_36 : decode cX1_wearTooth 36 = .ok (.bipush 100, 2) := by decide +kernel
theorem dX1_wearTooth_38 : decode cX1_wearTooth 38 = .ok (.irem, 1) := by decide +kernel
theorem dX1_wearTooth_39 : decode cX1_wearTooth 39 = .ok (.iastore, 1) := by decide +kernel
theorem dX1_wearTooth_40 : decode cX1_wearTooth 40 = .ok (.return_, 1) := by decide +kernel
theorem dX1_biteAhead_0 : decode cX1_biteAhead 0 = .ok (.iconst 0, 1) := by decide +kernel
theorem dX1_biteAhead_1 : decode cX1_biteAhead 1 = .ok (.istore_n 3, 1) := by decide +kernel
theorem dX1_biteAhead_2 : decode cX1_biteAhead 2 = .ok (.iconst 0, 1) := by decide +kernel
theorem dX1_biteAhead_3 : decode cX1_biteAhead 3 = .ok (.istore 4, 2) := by decide +kernel
theorem dX1_biteAhead_5 : decode cX1_biteAhead 5 = .ok (.iload 4, 2) := by decide +kernel
theorem dX1_biteAhead_7 : decode cX1_biteAhead 7 = .ok (.aload_n 0, 1) := by decide +kernel
theorem dX1_biteAhead_8 : decode cX1_biteAhead 8 = .ok (.getfield 36, 3) := by decide +kernel
theorem dX1_biteAhead_11 : decode cX1_biteAhead 11 = .ok (.if_icmp .ge 28, 3) := by decide +kernel
theorem dX1_biteAhead_14 : decode cX1_biteAhead 14 = .ok (.iload_n 3, 1) := by decide +kernel
theorem dX1_biteAhead_15 : decode cX1_biteAhead 15 = .ok (.iload_n 2, 1) := by decide +kernel
theorem dX1_biteAhead_16 : decode cX1_biteAhead 16 = .ok (.if_icmp .ge 17, 3) := by decide +kernel
theorem dX1_biteAhead_19 : decode cX1_biteAhead 19 = .ok (.iload_n 3, 1) := by decide +kernel
theorem dX1_biteAhead_20 : decode cX1_biteAhead 20 = .ok (.iload_n 1, 1) := by decide +kernel
theorem dX1_biteAhead_21 : decode cX1_biteAhead 21 = .ok (.aload_n 0, 1) := by decide +kernel
theorem dX1_biteAhead_22 : decode cX1_biteAhead 22 = .ok (.getfield 15, 3) := by decide +kernel
theorem dX1_biteAhead_25 : decode cX1_biteAhead 25 = .ok (.iload 4, 2) := by decide +kernel
theorem dX1_biteAhead_27 : decode cX1_biteAhead 27 = .ok (.iaload, 1) := by decide +kernel
theorem dX1_biteAhead_28 : decode cX1_biteAhead 28 = .ok (.invokestatic 62, 3) := by decide +kernel
theorem dX1_biteAhead_31 : decode cX1_biteAhead 31 = .ok (.iadd, 1) := by decide +kernel
theorem dX1_biteAhead_32 : decode cX1_biteAhead 32 = .ok (.istore_n 3, 1) := by decide +kernel
theorem dX1_biteAhead_33 : decode cX1_biteAhead 33 = .ok (.iinc 4 1, 3) := by decide +kernel
theorem dX1_biteAhead_36 : decode cX1_biteAhead 36 = .ok (.goto (-31), 3) := by decide +kernel
theorem dX1_biteAhead_39 : decode cX1_biteAhead 39 = .ok (.iload_n 3, 1) := by decide +kernel
theorem dX1_biteAhead_40 : decode cX1_biteAhead 40 = .ok (.ireturn, 1) := by decide +kernel
theorem dX1_lostOnes_0 : decode cX1_lostOnes 0 = .ok (.iconst 0, 1) := by decide +kernel
theorem dX1_lostOnes_1 : decode cX1_lostOnes 1 = .ok (.istore_n 1, 1) := by decide +kernel
theorem dX1_lostOnes_2 : decode cX1_lostOnes 2 = .ok (.iconst 0, 1) := by decide +kernel
theorem dX1_lostOnes_3 : decode cX1_lostOnes 3 = .ok (.istore_n 2, 1) := by decide +kernel
theorem dX1_lostOnes_4 : decode cX1_lostOnes 4 = .ok (.iload_n 2, 1) := by decide +kernel
theorem dX1_lostOnes_5 : decode cX1_lostOnes 5 = .ok (.aload_n 0, 1) := by decide +kernel
theorem dX1_lostOnes_6 : decode cX1_lostOnes 6 = .ok (.getfield 36, 3) := by decide +kernel
theorem dX1_lostOnes_9 : decode cX1_lostOnes 9 = .ok (.if_icmp .ge 20, 3) := by decide +kernel
theorem dX1_lostOnes_12 : decode cX1_lostOnes 12 = .ok (.aload_n 0, 1) := by decide +kernel
theorem dX1_lostOnes_13 : decode cX1_lostOnes 13 = .ok (.iload_n 2, 1) := by decide +kernel
theorem dX1_lostOnes_14 : decode cX1_lostOnes 14 = .ok (.invokevirtual 69, 3) := by decide +kernel
theorem dX1_lostOnes_17 : decode cX1_lostOnes 17 = .ok (.ifCond .eq 6, 3) := by decide +kernel
theorem dX1_lostOnes_20 : decode cX1_lostOnes 20 = .ok (.iinc 1 1, 3) := by decide +kernel
theorem dX1_lostOnes_23 : decode cX1_lostOnes 23 = .ok (.iinc 2 1, 3) := by decide +kernel
theorem dX1_lostOnes_26 : decode cX1_lostOnes 26 = .ok (.goto (-22), 3) := by decide +kernel
theorem dX1_lostOnes_29 : decode cX1_lostOnes 29 = .ok (.iload_n 1, 1) := by decide +kernel
theorem dX1_lostOnes_30 : decode cX1_lostOnes 30 = .ok (.ireturn, 1) := by decide +kernel
theorem dX1_hasLost_0 : decode cX1_hasLost 0 = .ok (.aload_n 0, 1) := by decide +kernel
theorem dX1_hasLost_1 : decode cX1_hasLost 1 = .ok (.getfield 15, 3) := by decide +kernel
theorem dX1_hasLost_4 : decode cX1_hasLost 4 = .ok (.iload_n 1, 1) := by decide +kernel
theorem dX1_hasLost_5 : decode cX1_hasLost 5 = .ok (.iaload, 1) := by decide +kernel
theorem dX1_hasLost_6 : decode cX1_hasLost 6 = .ok (.aload_n 0, 1) := by decide +kernel
theorem dX1_hasLost_7 : decode cX1_hasLost 7 = .ok (.getfield 32, 3) := by decide +kernel
theorem dX1_hasLost_10 : decode cX1_hasLost 10 = .ok (.ifCond .eq 12, 3) := by decide +kernel
theorem dX1_hasLost_13 : decode cX1_hasLost 13 = .ok (.aload_n 0, 1) := by decide +kernel
theorem dX1_hasLost_14 : decode cX1_hasLost 14 = .ok (.getfield 25, 3) := by decide +kernel
theorem dX1_hasLost_17 : decode cX1_hasLost 17 = .ok (.iconst 1, 1) := by decide +kernel
theorem dX1_hasLost_18 : decode cX1_hasLost 18 = .ok (.isub, 1) := by decide +kernel
theorem dX1_hasLost_19 : decode cX1_hasLost 19 = .ok (.goto 7, 3) := by decide +kernel
theorem dX1_hasLost_22 : decode cX1_hasLost 22 = .ok (.aload_n 0, 1) := by decide +kernel
theorem dX1_hasLost_23 : decode cX1_hasLost 23 = .ok (.getfield 25, 3) := by decide +kernel
theorem dX1_hasLost_26 : decode cX1_hasLost 26 = .ok (.if_icmp .ge 7, 3) := by decide +kernel
theorem dX1_hasLost_29 : decode cX1_hasLost 29 = .ok (.iconst 1, 1) := by decide +kernel
theorem dX1_hasLost_30 : decode cX1_hasLost 30 = .ok (.goto 4, 3) := by decide +kernel
theorem dX1_hasLost_33 : decode cX1_hasLost 33 = .ok (.iconst 0, 1) := by decide +kernel
theorem dX1_hasLost_34 : decode cX1_hasLost 34 = .ok (.ireturn, 1) := by decide +kernel
theorem dX1_isFresh_0 : decode cX1_isFresh 0 = .ok (.iconst 0, 1) := by decide +kernel
theorem dX1_isFresh_1 : decode cX1_isFresh 1 = .ok (.istore_n 1, 1) := by decide +kernel
theorem dX1_isFresh_2 : decode cX1_isFresh 2 = .ok (.iload_n 1, 1) := by decide +kernel
theorem dX1_isFresh_3 : decode cX1_isFresh 3 = .ok (.aload_n 0, 1) := by decide +kernel
theorem dX1_isFresh_4 : decode cX1_isFresh 4 = .ok (.getfield 36, 3) := by decide +kernel
theorem dX1_isFresh_7 : decode cX1_isFresh 7 = .ok (.if_icmp .ge 28, 3) := by decide +kernel
theorem dX1_isFresh_10 : decode cX1_isFresh 10 = .ok (.aload_n 0, 1) := by decide +kernel
theorem dX1_isFresh_11 : decode cX1_isFresh 11 = .ok (.iload_n 1, 1) := by decide +kernel
theorem dX1_isFresh_12 : decode cX1_isFresh 12 = .ok (.invokevirtual 69, 3) := by decide +kernel
theorem dX1_isFresh_15 : decode cX1_isFresh 15 = .ok (.ifCond .ne 12, 3) := by decide +kernel
theorem dX1_isFresh_18 : decode cX1_isFresh 18 = .ok (.aload_n 0, 1) := by decide +kernel
theorem dX1_isFresh_19 : decode cX1_isFresh 19 = .ok (.getfield 18, 3) := by decide +kernel
theorem dX1_isFresh_22 : decode cX1_isFresh 22 = .ok (.iload_n 1, 1) := by decide +kernel
theorem dX1_isFresh_23 : decode cX1_isFresh 23 = .ok (.iaload, 1) := by decide +kernel
theorem dX1_isFresh_24 : decode cX1_isFresh 24 = .ok (.ifCond .eq 5, 3) := by decide +kernel
theorem dX1_isFresh_27 : decode cX1_isFresh 27 = .ok (.iconst 0, 1) := by decide +kernel
theorem dX1_isFresh_28 : decode cX1_isFresh 28 = .ok (.ireturn, 1) := by decide +kernel
theorem dX1_isFresh_29 : decode cX1_isFresh 29 = .ok (.iinc 1 1, 3) := by decide +kernel
theorem dX1_isFresh_32 : decode cX1_isFresh 32 = .ok (.goto (-30), 3) := by decide +kernel
theorem dX1_isFresh_35 : decode cX1_isFresh 35 = .ok (.iconst 1, 1) := by decide +kernel
theorem dX1_isFresh_36 : decode cX1_isFresh 36 = .ok (.ireturn, 1) := by decide +kernel
theorem dX1_placesAreDue_0 : decode cX1_placesAreDue 0 = .ok (.iconst 0, 1) := by decide +kernel
theorem dX1_placesAreDue_1 : decode cX1_placesAreDue 1 = .ok (.istore_n 2, 1) := by decide +kernel
theorem dX1_placesAreDue_2 : decode cX1_placesAreDue 2 = .ok (.iconst 0, 1) := by decide +kernel
theorem dX1_placesAreDue_3 : decode cX1_placesAreDue 3 = .ok (.istore_n 3, 1) := by decide +kernel
theorem dX1_placesAreDue_4 : decode cX1_placesAreDue 4 = .ok (.iload_n 3, 1) := by decide +kernel
theorem dX1_placesAreDue_5 : decode cX1_placesAreDue 5 = .ok (.aload_n 0, 1) := by decide +kernel
theorem dX1_placesAreDue_6 : decode cX1_placesAreDue 6 = .ok (.getfield 36, 3) := by decide +kernel
theorem dX1_placesAreDue_9 : decode cX1_placesAreDue 9 = .ok (.if_icmp .ge 34, 3) := by decide +kernel
theorem dX1_placesAreDue_12 : decode cX1_placesAreDue 12 = .ok (.aload_n 0, 1) := by decide +kernel
theorem dX1_placesAreDue_13 : decode cX1_placesAreDue 13 = .ok (.getfield 9, 3) := by decide +kernel
theorem dX1_placesAreDue_16 : decode cX1_placesAreDue 16 = .ok (.iload_n 3, 1) := by decide +kernel
theorem dX1_placesAreDue_17 : decode cX1_placesAreDue 17 = .ok (.iaload, 1) := by decide +kernel
theorem dX1_placesAreDue_18 : decode cX1_placesAreDue 18 = .ok (.iload_n 2, 1) := by decide +kernel
theorem dX1_placesAreDue_19 : decode cX1_placesAreDue 19 = .ok (.if_icmp .ne 8, 3) := by decide +kernel
theorem dX1_placesAreDue_22 : decode cX1_placesAreDue 22 = .ok (.iload_n 2, 1) := by decide +kernel
theorem dX1_placesAreDue_23 : decode cX1_placesAreDue 23 = .ok (.iload_n 1, 1) := by decide +kernel
theorem dX1_placesAreDue_24 : decode cX1_placesAreDue 24 = .ok (.if_icmp .lt 5, 3) := by decide +kernel
theorem dX1_placesAreDue_27 : decode cX1_placesAreDue 27 = .ok (.iconst 0, 1) := by decide +kernel
theorem dX1_placesAreDue_28 : decode cX1_placesAreDue 28 = .ok (.ireturn, 1) := by decide +kernel
theorem dX1_placesAreDue_29 : decode cX1_placesAreDue 29 = .ok (.iload_n 2, 1) := by decide +kernel
theorem dX1_placesAreDue_30 : decode cX1_placesAreDue 30 = .ok (.aload_n 0, 1) := by decide +kernel
theorem dX1_placesAreDue_31 : decode cX1_placesAreDue 31 = .ok (.iload_n 3, 1) := by decide +kernel
theorem dX1_placesAreDue_32 : decode cX1_placesAreDue 32 = .ok (.invokevirtual 39, 3) := by decide +kernel
theorem dX1_placesAreDue_35 : decode cX1_placesAreDue 35 = .ok (.iadd, 1) := by decide +kernel
theorem dX1_placesAreDue_36 : decode cX1_placesAreDue 36 = .ok (.istore_n 2, 1) := by decide +kernel
theorem dX1_placesAreDue_37 : decode cX1_placesAreDue 37 = .ok (.iinc 3 1, 3) := by decide +kernel
theorem dX1_placesAreDue_40 : decode cX1_placesAreDue 40 = .ok (.goto (-36), 3) := by decide +kernel
theorem dX1_placesAreDue_43 : decode cX1_placesAreDue 43 = .ok (.aload_n 0, 1) := by decide +kernel
theorem dX1_placesAreDue_44 : decode cX1_placesAreDue 44 = .ok (.getfield 36, 3) := by decide +kernel
theorem dX1_placesAreDue_47 : decode cX1_placesAreDue 47 = .ok (.ifCond .eq 17, 3) := by decide +kernel
theorem dX1_placesAreDue_50 : decode cX1_placesAreDue 50 = .ok (.aload_n 0, 1) := by decide +kernel
theorem dX1_placesAreDue_51 : decode cX1_placesAreDue 51 = .ok (.getfield 36, 3) := by decide +kernel
theorem dX1_placesAreDue_54 : decode cX1_placesAreDue 54 = .ok (.bipush 60, 2) := by decide +kernel
theorem dX1_placesAreDue_56 : decode cX1_placesAreDue 56 = .ok (.if_icmp .eq 8, 3) := by decide +kernel
theorem dX1_placesAreDue_59 : decode cX1_placesAreDue 59 = .ok (.iload_n 2, 1) := by decide +kernel
theorem dX1_placesAreDue_60 : decode cX1_placesAreDue 60 = .ok (.iload_n 1, 1) := by decide +kernel
theorem dX1_placesAreDue_61 : decode cX1_placesAreDue 61 = .ok (.if_icmp .lt 7, 3) := by decide +kernel
theorem dX1_placesAreDue_64 : decode cX1_placesAreDue 64 = .ok (.iconst 1, 1) := by decide +kernel
theorem dX1_placesAreDue_65 : decode cX1_placesAreDue 65 = .ok (.goto 4, 3) := by decide +kernel
theorem dX1_placesAreDue_68 : decode cX1_placesAreDue 68 = .ok (.iconst 0, 1) := by decide +kernel
theorem dX1_placesAreDue_69 : decode cX1_placesAreDue 69 = .ok (.ireturn, 1) := by decide +kernel
theorem dX2_init_0 : decode cX2_init 0 = .ok (.aload_n 0, 1) := by decide +kernel
theorem dX2_init_1 : decode cX2_init 1 = .ok (.invokespecial 3, 3) := by decide +kernel
theorem dX2_init_4 : decode cX2_init 4 = .ok (.aload_n 0, 1) := by decide +kernel
theorem dX2_init_5 : decode cX2_init 5 = .ok (.iload_n 1, 1) := by decide +kernel
theorem dX2_init_6 : decode cX2_init 6 = .ok (.putfield 9, 3) := by decide +kernel
theorem dX2_init_9 : decode cX2_init 9 = .ok (.aload_n 0, 1) := by decide +kernel
theorem dX2_init_10 : decode cX2_init 10 = .ok (.iload_n 2, 1) := by decide +kernel
theorem dX2_init_11 : decode cX2_init 11 = .ok (.putfield 15, 3) := by decide +kernel
theorem dX2_init_14 : decode cX2_init 14 = .ok (.aload_n 0, 1) := by decide +kernel
theorem dX2_init_15 : decode cX2_init 15 = .ok (.iload_n 3, 1) := by decide +kernel
theorem dX2_init_16 : decode cX2_init 16 = .ok (.putfield 19, 3) := by decide +kernel
theorem dX2_init_19 : decode cX2_init 19 = .ok (.aload_n 0, 1) := by decide +kernel
theorem dX2_init_20 : decode cX2_init 20 = .ok (.iload 4, 2) := by decide +kernel
theorem dX2_init_22 : decode cX2_init 22 = .ok (.putfield 22, 3) := by decide +kernel
theorem dX2_init_25 : decode cX2_init 25 = .ok (.aload_n 0, 1) := by decide +kernel
theorem dX2_init_26 : decode cX2_init 26 = .ok (.bipush 115, 2) := by decide +kernel
theorem dX2_init_28 : decode cX2_init 28 = .ok (.putfield 25, 3) := by decide +kernel
theorem dX2_init_31 : decode cX2_init 31 = .ok (.aload_n 0, 1) := by decide +kernel
theorem dX2_init_32 : decode cX2_init 32 = .ok (.new 28, 3) := by decide +kernel
theorem dX2_init_35 : decode cX2_init 35 = .ok (.dup, 1) := by decide +kernel
theorem dX2_init_36 : decode cX2_init 36 = .ok (.invokespecial 30, 3) := by decide +kernel
theorem dX2_init_39 : decode cX2_init 39 = .ok (.putfield 31, 3) := by decide +kernel
theorem dX2_init_42 : decode cX2_init 42 = .ok (.return_, 1) := by decide +kernel
theorem dX2_cool_0 : decode cX2_cool 0 = .ok (.aload_n 0, 1) := by decide +kernel
theorem dX2_cool_1 : decode cX2_cool 1 = .ok (.iconst 0, 1) := by decide +kernel
theorem dX2_cool_2 : decode cX2_cool 2 = .ok (.putfield 35, 3) := by decide +kernel
theorem dX2_cool_5 : decode cX2_cool 5 = .ok (.return_, 1) := by decide +kernel
theorem dX2_holds_0 : decode cX2_holds 0 = .ok (.aload_n 0, 1) := by decide +kernel
theorem dX2_holds_1 : decode cX2_holds 1 = .ok (.getfield 31, 3) := by decide +kernel
theorem dX2_holds_4 : decode cX2_holds 4 = .ok (.getfield 38, 3) := by decide +kernel
theorem dX2_holds_7 : decode cX2_holds 7 = .ok (.aload_n 0, 1) := by decide +kernel
theorem dX2_holds_8 : decode cX2_holds 8 = .ok (.getfield 41, 3) := by decide +kernel
theorem dX2_holds_11 : decode cX2_holds 11 = .ok (.iadd, 1) := by decide +kernel
theorem dX2_holds_12 : decode cX2_holds 12 = .ok (.aload_n 0, 1) := by decide +kernel
theorem dX2_holds_13 : decode cX2_holds 13 = .ok (.getfield 31, 3) := by decide +kernel
theorem dX2_holds_16 : decode cX2_holds 16 = .ok (.getfield 44, 3) := by decide +kernel
theorem dX2_holds_19 : decode cX2_holds 19 = .ok (.imul, 1) := by decide +kernel
theorem dX2_holds_20 : decode cX2_holds 20 = .ok (.ireturn, 1) := by decide +kernel
theorem dX2_quench_0 : decode cX2_quench 0 = .ok (.aload_n 0, 1) := by decide +kernel
theorem dX2_quench_1 : decode cX2_quench 1 = .ok (.getfield 22, 3) := by decide +kernel
theorem dX2_quench_4 : decode cX2_quench 4 = .ok (.iconst 2, 1) := by decide +kernel
theorem dX2_quench_5 : decode cX2_quench 5 = .ok (.idiv, 1) := by decide +kernel
theorem dX2_quench_6 : decode cX2_quench 6 = .ok (.iload_n 2, 1) := by decide +kernel
theorem dX2_quench_7 : decode cX2_quench 7 = .ok (.iadd, 1) := by decide +kernel
theorem dX2_quench_8 : decode cX2_quench 8 = .ok (.istore 4, 2) := by decide +kernel
theorem dX2_quench_10 : decode cX2_quench 10 = .ok (.iload_n 1, 1) := by decide +kernel
theorem dX2_quench_11 : decode cX2_quench 11 = .ok (.sipush 900, 3) := by decide +kernel
theorem dX2_quench_14 : decode cX2_quench 14 = .ok (.if_icmp .le 16, 3) := by decide +kernel
theorem dX2_quench_17 : decode cX2_quench 17 = .ok (.iload 4, 2) := by decide +kernel
theorem dX2_quench_19 : decode cX2_quench 19 = .ok (.iload_n 1, 1) := by decide +kernel
theorem dX2_quench_20 : decode cX2_quench 20 = .ok (.sipush 900, 3) := by decide +kernel
theorem dX2_quench_23 : decode cX2_quench 23 = .ok (.isub, 1) := by decide +kernel
theorem dX2_quench_24 : decode cX2_quench 24 = .ok (.bipush 20, 2) := by decide +kernel
theorem dX2_quench_26 : decode cX2_quench 26 = .ok (.idiv, 1) := by decide +kernel
theorem dX2_quench_27 : decode cX2_quench 27 = .ok (.isub, 1) := by decide +kernel
theorem dX2_quench_28 : decode cX2_quench 28 = .ok (.istore 4, 2) := by decide +kernel
theorem dX2_quench_30 : decode cX2_quench 30 = .ok (.aload_n 0, 1) := by decide +kernel
theorem dX2_quench_31 : decode cX2_quench 31 = .ok (.bipush 66, 2) := by decide +kernel
theorem dX2_quench_33 : decode cX2_quench 33 = .ok (.iconst 1, 1) := by decide +kernel
theorem dX2_quench_34 : decode cX2_quench 34 = .ok (.iload 4, 2) := by decide +kernel
theorem dX2_quench_36 : decode cX2_quench 36 = .ok (.invokestatic 47, 3) := by decide +kernel
theorem dX2_quench_39 : decode cX2_quench 39 = .ok (.invokestatic 53, 3) := by decide +kernel
theorem dX2_quench_42 : decode cX2_quench 42 = .ok (.putfield 56, 3) := by decide +kernel
theorem dX2_quench_45 : decode cX2_quench 45 = .ok (.aload_n 0, 1) := by decide +kernel
theorem dX2_quench_46 : decode cX2_quench 46 = .ok (.getfield 19, 3) := by decide +kernel
theorem dX2_quench_49 : decode cX2_quench 49 = .ok (.ifCond .le 20, 3) := by decide +kernel
theorem dX2_quench_52 : decode cX2_quench 52 = .ok (.iload_n 2, 1) := by decide +kernel
theorem dX2_quench_53 : decode cX2_quench 53 = .ok (.aload_n 0, 1) := by decide +kernel
theorem dX2_quench_54 : decode cX2_quench 54 = .ok (.getfield 15, 3) := by decide +kernel
theorem dX2_quench_57 : decode cX2_quench 57 = .ok (.imul, 1) := by decide +kernel
theorem dX2_quench_58 : decode cX2_quench 58 = .ok (.bipush 20, 2) := by decide +kernel
theorem dX2_quench_60 : decode cX2_quench 60 = .ok (.aload_n 0, 1) := by decide +kernel
theorem dX2_quench_61 : decode cX2_quench 61 = .ok (.getfield 19, 3) := by decide +kernel
theorem dX2_quench_64 : decode cX2_quench 64 = .ok (.imul, 1) := by decide +kernel
theorem dX2_quench_65 : decode cX2_quench 65 = .ok (.idiv, 1) := by decide +kernel
theorem dX2_quench_66 : decode cX2_quench 66 = .ok (.goto 4, 3) := by decide +kernel
theorem dX2_quench_69 : decode cX2_quench 69 = .ok (.iconst 0, 1) := by decide +kernel
theorem dX2_quench_70 : decode cX2_quench 70 = .ok (.istore 5, 2) := by decide +kernel
theorem dX2_quench_72 : decode cX2_quench 72 = .ok (.aload_n 0, 1) := by decide +kernel
theorem dX2_quench_73 : decode cX2_quench 73 = .ok (.dup, 1) := by decide +kernel
theorem dX2_quench_74 : decode cX2_quench 74 = .ok (.getfield 59, 3) := by decide +kernel
theorem dX2_quench_77 : decode cX2_quench 77 = .ok (.iload 5, 2) := by decide +kernel
theorem dX2_quench_79 : decode cX2_quench 79 = .ok (.iload_n 3, 1) := by decide +kernel
theorem dX2_quench_80 : decode cX2_quench 80 = .ok (.iadd, 1) := by decide +kernel
theorem dX2_quench_81 : decode cX2_quench 81 = .ok (.iadd, 1) := by decide +kernel
theorem dX2_quench_82 : decode cX2_quench 82 = .ok (.putfield 59, 3) := by decide +kernel
theorem dX2_quench_85 : decode cX2_quench 85 = .ok (.aload_n 0, 1) := by decide +kernel
theorem dX2_quench_86 : decode cX2_quench 86 = .ok (.aload_n 0, 1) := by decide +kernel
theorem dX2_quench_87 : decode cX2_quench 87 = .ok (.getfield 59, 3) := by decide +kernel
theorem dX2_quench_90 : decode cX2_quench 90 = .ok (.bipush 30, 2) := by decide +kernel
theorem dX2_quench_92 : decode cX2_quench 92 = .ok (.if_icmp .le 8, 3) := by decide +kernel
theorem dX2_quench_95 : decode cX2_quench 95 = .ok (.bipush 99, 2) := by decide +kernel
theorem dX2_quench_97 : decode cX2_quench 97 = .ok (.goto 5, 3) := by decide +kernel
theorem dX2_quench_100 : decode cX2_quench 100 = .ok (.bipush 104, 2) := by decide +kernel
theorem dX2_quench_102 : decode cX2_quench 102 = .ok (.putfield 25, 3) := by decide +kernel
theorem dX2_quench_105 : decode cX2_quench 105 = .ok (.return_, 1) := by decide +kernel
theorem dX2_bite_0 : decode cX2_bite 0 = .ok (.aload_n 0, 1) := by decide +kernel
theorem dX2_bite_1 : decode cX2_bite 1 = .ok (.invokevirtual 62, 3) := by decide +kernel
theorem dX2_bite_4 : decode cX2_bite 4 = .ok (.aload_n 0, 1) := by decide +kernel
theorem dX2_bite_5 : decode cX2_bite 5 = .ok (.invokevirtual 65, 3) := by decide +kernel
theorem dX2_bite_8 : decode cX2_bite 8 = .ok (.istore_n 3, 1) := by decide +kernel
theorem dX2_bite_9 : decode cX2_bite 9 = .ok (.aload_n 0, 1) := by decide +kernel
theorem dX2_bite_10 : decode cX2_bite 10 = .ok (.getfield 69, 3) := by decide +kernel
theorem dX2_bite_13 : decode cX2_bite 13 = .ok (.ifCond .le 10, 3) := by decide +kernel
theorem dX2_bite_16 : decode cX2_bite 16 = .ok (.aload_n 0, 1) := by decide +kernel
theorem dX2_bite_17 : decode cX2_bite 17 = .ok (.getfield 72, 3) := by decide +kernel
theorem dX2_bite_20 : decode cX2_bite 20 = .ok (.goto 4, 3) := by decide +kernel
theorem dX2_bite_23 : decode cX2_bite 23 = .ok (.iconst 0, 1) := by decide +kernel
theorem dX2_bite_24 : decode cX2_bite 24 = .ok (.istore 4, 2) := by decide +kernel
theorem dX2_bite_26 : decode cX2_bite 26 = .ok (.iconst 0, 1) := by decide +kernel
theorem dX2_bite_27 : decode cX2_bite 27 = .ok (.istore 5, 2) := by decide +kernel
theorem dX2_bite_29 : decode cX2_bite 29 = .ok (.iconst 0, 1) := by decide +kernel
theorem dX2_bite_30 : decode cX2_bite 30 = .ok (.istore 6, 2) := by decide +kernel
theorem dX2_bite_32 : decode cX2_bite 32 = .ok (.iload 6, 2) := by decide +kernel
theorem dX2_bite_34 : decode cX2_bite 34 = .ok (.iload_n 2, 1) := by decide +kernel
theorem dX2_bite_35 : decode cX2_bite 35 = .ok (.if_icmp .ge 50, 3) := by decide +kernel
theorem dX2_bite_38 : decode cX2_bite 38 = .ok (.aload_n 0, 1) := by decide +kernel
theorem dX2_bite_39 : decode cX2_bite 39 = .ok (.getfield 31, 3) := by decide +kernel
theorem dX2_bite_42 : decode cX2_bite 42 = .ok (.aload_n 0, 1) := by decide +kernel
theorem dX2_bite_43 : decode cX2_bite 43 = .ok (.getfield 56, 3) := by decide +kernel
theorem dX2_bite_46 : decode cX2_bite 46 = .ok (.iload_n 1, 1) := by decide +kernel
theorem dX2_bite_47 : decode cX2_bite 47 = .ok (.aload_n 0, 1) := by decide +kernel
theorem dX2_bite_48 : decode cX2_bite 48 = .ok (.invokevirtual 75, 3) := by decide +kernel
theorem dX2_bite_51 : decode cX2_bite 51 = .ok (.aload_n 0, 1) := by decide +kernel
theorem dX2_bite_52 : decode cX2_bite 52 = .ok (.getfield 69, 3) := by decide +kernel
theorem dX2_bite_55 : decode cX2_bite 55 = .ok (.isub, 1) := by decide +kernel
theorem dX2_bite_56 : decode cX2_bite 56 = .ok (.invokevirtual 78, 3) := by decide +kernel
theorem dX2_bite_59 : decode cX2_bite 59 = .ok (.istore 7, 2) := by decide +kernel
theorem dX2_bite_61 : decode cX2_bite 61 = .ok (.aload_n 0, 1) := by decide +kernel
theorem dX2_bite_62 : decode cX2_bite 62 = .ok (.dup, 1) := by decide +kernel
theorem dX2_bite_63 : decode cX2_bite 63 = .ok (.getfield 69, 3) := by decide +kernel
theorem dX2_bite_66 : decode cX2_bite 66 = .ok (.iload 7, 2) := by decide +kernel
theorem dX2_bite_68 : decode cX2_bite 68 = .ok (.iadd, 1) := by decide +kernel
theorem dX2_bite_69 : decode cX2_bite 69 = .ok (.putfield 69, 3) := by decide +kernel
theorem dX2_bite_72 : decode cX2_bite 72 = .ok (.iload 5, 2) := by decide +kernel
theorem dX2_bite_74 : decode cX2_bite 74 = .ok (.iload 7, 2) := by decide +kernel
theorem dX2_bite_76 : decode cX2_bite 76 = .ok (.iadd, 1) := by decide +kernel
theorem dX2_bite_77 : decode cX2_bite 77 = .ok (.istore 5, 2) := by decide +kernel
theorem dX2_bite_79 : decode cX2_bite 79 = .ok (.iinc 6 1, 3) := by decide +kernel
theorem dX2_bite_82 : decode cX2_bite 82 = .ok (.goto (-50), 3) := by decide +kernel
theorem dX2_bite_85 : decode cX2_bite 85 = .ok (.iload 5, 2) := by decide +kernel
theorem dX2_bite_87 : decode cX2_bite 87 = .ok (.ifCond .le 13, 3) := by decide +kernel
theorem dX2_bite_90 : decode cX2_bite 90 = .ok (.aload_n 0, 1) := by decide +kernel
theorem dX2_bite_91 : decode cX2_bite 91 = .ok (.iload 4, 2) := by decide +kernel
theorem dX2_bite_93 : decode cX2_bite 93 = .ok (.iload_n 3, 1) := by decide +kernel
theorem dX2_bite_94 : decode cX2_bite 94 = .ok (.invokestatic 47, 3) := by decide +kernel
theorem dX2_bite_97 : decode cX2_bite 97 = .ok (.putfield 72, 3) := by decide +kernel
theorem dX2_bite_100 : decode cX2_bite 100 = .ok (.aload_n 0, 1) := by decide +kernel
theorem dX2_bite_101 : decode cX2_bite 101 = .ok (.dup, 1) := by decide +kernel
theorem dX2_bite_102 : decode cX2_bite 102 = .ok (.getfield 82, 3) := by decide +kernel
theorem dX2_bite_105 : decode cX2_bite 105 = .ok (.iload 5, 2) := by decide +kernel
theorem dX2_bite_107 : decode cX2_bite 107 = .ok (.iadd, 1) := by decide +kernel
theorem dX2_bite_108 : decode cX2_bite 108 = .ok (.putfield 82, 3) := by decide +kernel
theorem dX2_bite_111 : decode cX2_bite 111 = .ok (.iload 5, 2) := by decide +kernel
theorem dX2_bite_113 : decode cX2_bite 113 = .ok (.ireturn, 1) := by decide +kernel
theorem dX2_greatestBite_0 : decode cX2_greatestBite 0 = .ok (.aload_n 0, 1) := by decide +kernel
theorem dX2_greatestBite_1 : decode cX2_greatestBite 1 = .ok (.getfield 25, 3) := by decide +kernel
theorem dX2_greatestBite_4 : decode cX2_greatestBite 4 = .ok (.bipush 104, 2) := by decide +kernel
theorem dX2_greatestBite_6 : decode cX2_greatestBite 6 = .ok (.if_icmp .ne 24, 3) := by decide +kernel
theorem dX2_greatestBite_9 : decode cX2_greatestBite 9 = .ok (.aload_n 0, 1) := by decide +kernel
theorem dX2_greatestBite_10 : decode cX2_greatestBite 10 = .ok (.getfield 31, 3) := by decide +kernel
theorem dX2_greatestBite_13 : decode cX2_greatestBite 13 = .ok (.invokevirtual 85, 3) := by decide +kernel
theorem dX2_greatestBite_16 : decode cX2_greatestBite 16 = .ok (.aload_n 0, 1) := by decide +kernel
theorem dX2_greatestBite_17 : decode cX2_greatestBite 17 = .ok (.getfield 56, 3) := by decide +kernel
theorem dX2_greatestBite_20 : decode cX2_greatestBite 20 = .ok (.iconst 1, 1) := by decide +kernel
theorem dX2_greatestBite_21 : decode cX2_greatestBite 21 = .ok (.invokestatic 88, 3) := by decide +kernel
theorem dX2_greatestBite_24 : decode cX2_greatestBite 24 = .ok (.invokestatic 53, 3) := by decide +kernel
theorem dX2_greatestBite_27 : decode cX2_greatestBite 27 = .ok (.goto 4, 3) := by decide +kernel
theorem dX2_greatestBite_30 : decode cX2_greatestBite 30 = .ok (.iconst 0, 1) := by decide +kernel
theorem dX2_greatestBite_31 : decode cX2_greatestBite 31 = .ok (.ireturn, 1) := by decide +kernel
theorem dX2_oneMoreBite_0 : decode cX2_oneMoreBite 0 = .ok (.aload_n 0, 1) := by decide +kernel
theorem dX2_oneMoreBite_1 : decode cX2_oneMoreBite 1 = .ok (.getfield 72, 3) := by decide +kernel
theorem dX2_oneMoreBite_4 : decode cX2_oneMoreBite 4 = .ok (.aload_n 0, 1) := by decide +kernel
theorem dX2_oneMoreBite_5 : decode cX2_oneMoreBite 5 = .ok (.invokevirtual 65, 3) := by decide +kernel
theorem dX2_oneMoreBite_8 : decode cX2_oneMoreBite 8 = .ok (.invokestatic 47, 3) := by decide +kernel
theorem dX2_oneMoreBite_11 : decode cX2_oneMoreBite 11 = .ok (.ireturn, 1) := by decide +kernel
theorem dX2_groundThickness_0 : decode cX2_groundThickness 0 = .ok (.aload_n 0, 1) := by decide +kernel
theorem dX2_groundThickness_1 : decode cX2_groundThickness 1 = .ok (.getfield 19, 3) := by decide +kernel
theorem dX2_groundThickness_4 : decode cX2_groundThickness 4 = .ok (.iconst 2, 1) := by decide +kernel
theorem dX2_groundThickness_5 : decode cX2_groundThickness 5 = .ok (.isub, 1) := by decide +kernel
theorem dX2_groundThickness_6 : decode cX2_groundThickness 6 = .ok (.aload_n 0, 1) := by decide +kernel
theorem dX2_groundThickness_7 : decode cX2_groundThickness 7 = .ok (.getfield 31, 3) := by decide +kernel
theorem dX2_groundThickness_10 : decode cX2_groundThickness 10 = .ok (.getfield 38, 3) := by decide +kernel
theorem dX2_groundThickness_13 : decode cX2_groundThickness 13 = .ok (.isub, 1) := by decide +kernel
theorem dX2_groundThickness_14 : decode cX2_groundThickness 14 = .ok (.ireturn, 1) := by decide +kernel
theorem dX2_takeTeethOff_0 : decode cX2_takeTeethOff 0 = .ok (.aload_n 0, 1) := by decide +kernel
theorem dX2_takeTeethOff_1 : decode cX2_takeTeethOff 1 = .ok (.aload_n 0, 1) := by decide +kernel
theorem dX2_takeTeethOff_2 : decode cX2_takeTeethOff 2 = .ok (.invokevirtual 91, 3) := by decide +kernel
theorem dX2_takeTeethOff_5 : decode cX2_takeTeethOff 5 = .ok (.putfield 19, 3) := by decide +kernel
theorem dX2_takeTeethOff_8 : decode cX2_takeTeethOff 8 = .ok (.aload_n 0, 1) := by decide +kernel
theorem dX2_takeTeethOff_9 : decode cX2_takeTeethOff 9 = .ok (.getfield 31, 3) := by decide +kernel
theorem dX2_takeTeethOff_12 : decode cX2_takeTeethOff 12 = .ok (.invokevirtual 94, 3) := by decide +kernel
theorem dX2_takeTeethOff_15 : decode cX2_takeTeethOff 15 = .ok (.aload_n 0, 1) := by decide +kernel
theorem dX2_takeTeethOff_16 : decode cX2_takeTeethOff 16 = .ok (.iconst 0, 1) := by decide +kernel
theorem dX2_takeTeethOff_17 : decode cX2_takeTeethOff 17 = .ok (.putfield 41, 3) := by decide +kernel
theorem dX2_takeTeethOff_20 : decode cX2_takeTeethOff 20 = .ok (.aload_n 0, 1) := by decide +kernel
theorem dX2_takeTeethOff_21 : decode cX2_takeTeethOff 21 = .ok (.iconst 0, 1) := by decide +kernel
theorem dX2_takeTeethOff_22 : decode cX2_takeTeethOff 22 = .ok (.putfield 69, 3) := by decide +kernel
theorem dX2_takeTeethOff_25 : decode cX2_takeTeethOff 25 = .ok (.aload_n 0, 1) := by decide +kernel
theorem dX2_takeTeethOff_26 : decode cX2_takeTeethOff 26 = .ok (.dup, 1) := by decide +kernel
theorem dX2_takeTeethOff_27 : decode cX2_takeTeethOff 27 = .ok (.getfield 97, 3) := by decide +kernel
theorem dX2_takeTeethOff_30 : decode cX2_takeTeethOff 30 = .ok (.iconst 1, 1) := by decide +kernel
theorem dX2_takeTeethOff_31 : decode cX2_takeTeethOff 31 = .ok (.iadd, 1) := by decide +kernel
theorem dX2_takeTeethOff_32 : decode cX2_takeTeethOff 32 = .ok (.putfield 97, 3) := by decide +kernel
theorem dX2_takeTeethOff_35 : decode cX2_takeTeethOff 35 = .ok (.return_, 1) := by decide +kernel
theorem dX2_addTo_0 : decode cX2_addTo 0 = .ok (.ldc2_w 100, 3) := by decide +kernel
theorem dX2_addTo_3 : decode cX2_addTo 3 = .ok (.lload_n 1, 1) := by decide +kernel
theorem dX2_addTo_4 : decode cX2_addTo 4 = .ok (.lmul, 1) := by decide +kernel
theorem dX2_addTo_5 : decode cX2_addTo 5 = .ok (.aload_n 0, 1) := by decide +kernel
theorem dX2_addTo_6 : decode cX2_addTo 6 = .ok (.getfield 19, 3) := by decide +kernel
theorem dX2_addTo_9 : decode cX2_addTo 9 = .ok (.i2l, 1) := by decide +kernel
theorem dX2_addTo_10 : decode cX2_addTo 10 = .ok (.ladd, 1) := by decide +kernel
theorem dX2_addTo_11 : decode cX2_addTo 11 = .ok (.lstore_n 3, 1) := by decide +kernel
theorem dX2_addTo_12 : decode cX2_addTo 12 = .ok (.ldc2_w 100, 3) := by decide +kernel
theorem dX2_addTo_15 : decode cX2_addTo 15 = .ok (.lload_n 3, 1) := by decide +kernel
theorem dX2_addTo_16 : decode cX2_addTo 16 = .ok (.lmul, 1) := by decide +kernel
theorem dX2_addTo_17 : decode cX2_addTo 17 = .ok (.aload_n 0, 1) := by decide +kernel
theorem dX2_addTo_18 : decode cX2_addTo 18 = .ok (.getfield 56, 3) := by decide +kernel
theorem dX2_addTo_21 : decode cX2_addTo 21 = .ok (.i2l, 1) := by decide +kernel
theorem dX2_addTo_22 : decode cX2_addTo 22 = .ok (.ladd, 1) := by decide +kernel
theorem dX2_addTo_23 : decode cX2_addTo 23 = .ok (.lstore_n 3, 1) := by decide +kernel
theorem dX2_addTo_24 : decode cX2_addTo 24 = .ok (.ldc2_w 100, 3) := by decide +kernel
theorem dX2_addTo_27 : decode cX2_addTo 27 = .ok (.lload_n 3, 1) := by decide +kernel
theorem dX2_addTo_28 : decode cX2_addTo 28 = .ok (.lmul, 1) := by decide +kernel
theorem dX2_addTo_29 : decode cX2_addTo 29 = .ok (.aload_n 0, 1) := by decide +kernel
theorem dX2_addTo_30 : decode cX2_addTo 30 = .ok (.getfield 59, 3) := by decide +kernel
theorem dX2_addTo_33 : decode cX2_addTo 33 = .ok (.i2l, 1) := by decide +kernel
theorem dX2_addTo_34 : decode cX2_addTo 34 = .ok (.ladd, 1) := by decide +kernel
theorem dX2_addTo_35 : decode cX2_addTo 35 = .ok (.lstore_n 3, 1) := by decide +kernel
theorem dX2_addTo_36 : decode cX2_addTo 36 = .ok (.iconst 0, 1) := by decide +kernel
theorem dX2_addTo_37 : decode cX2_addTo 37 = .ok (.istore 5, 2) := by decide +kernel
theorem dX2_addTo_39 : decode cX2_addTo 39 = .ok (.iload 5, 2) := by decide +kernel
theorem dX2_addTo_41 : decode cX2_addTo 41 = .ok (.aload_n 0, 1) := by decide +kernel
theorem dX2_addTo_42 : decode cX2_addTo 42 = .ok (.getfield 31, 3) := by decide +kernel
theorem dX2_addTo_45 : decode cX2_addTo 45 = .ok (.getfield 44, 3) := by decide +kernel
theorem dX2_addTo_48 : decode cX2_addTo 48 = .ok (.if_icmp .ge 27, 3) := by decide +kernel
theorem dX2_addTo_51 : decode cX2_addTo 51 = .ok (.ldc2_w 100, 3) := by decide +kernel
theorem dX2_addTo_54 : decode cX2_addTo 54 = .ok (.lload_n 3, 1) := by decide +kernel
theorem dX2_addTo_55 : decode cX2_addTo 55 = .ok (.lmul, 1) := by decide +kernel
theorem dX2_addTo_56 : decode cX2_addTo 56 = .ok (.aload_n 0, 1) := by decide +kernel
theorem dX2_addTo_57 : decode cX2_addTo 57 = .ok (.getfield 31, 3) := by decide +kernel
theorem dX2_addTo_60 : decode cX2_addTo 60 = .ok (.getfield 102, 3) := by decide +kernel
theorem dX2_addTo_63 : decode cX2_addTo 63 = .ok (.iload 5, 2) := by decide +kernel
theorem dX2_addTo_65 : decode cX2_addTo 65 = .ok (.iaload, 1) := by decide +kernel
theorem dX2_addTo_66 : decode cX2_addTo 66 = .ok (.i2l, 1) := by decide +kernel
theorem dX2_addTo_67 : decode cX2_addTo 67 = .ok (.ladd, 1) := by decide +kernel
theorem dX2_addTo_68 : decode cX2_addTo 68 = .ok (.lstore_n 3, 1) := by decide +kernel
theorem dX2_addTo_69 : decode cX2_addTo 69 = .ok (.iinc 5 1, 3) := by decide +kernel
theorem dX2_addTo_72 : decode cX2_addTo 72 = .ok (.goto (-33), 3) := by decide +kernel
theorem dX2_addTo_75 : decode cX2_addTo 75 = .ok (.lload_n 3, 1) := by decide +kernel
theorem dX2_addTo_76 : decode cX2_addTo 76 = .ok (.lreturn, 1) := by decide +kernel
theorem dX3_init_0 : decode cX3_init 0 = .ok (.aload_n 0, 1) := by decide +kernel
theorem dX3_init_1 : decode cX3_init 1 = .ok (.invokespecial 1, 3) := by decide +kernel
theorem dX3_init_4 : decode cX3_init 4 = .ok (.aload_n 0, 1) := by decide +kernel
theorem dX3_init_5 : decode cX3_init 5 = .ok (.bipush 8, 2) := by decide +kernel
theorem dX3_init_7 : decode cX3_init 7 = .ok (.anewarray 9, 3) := by decide +kernel
theorem dX3_init_10 : decode cX3_init 10 = .ok (.putfield 11, 3) := by decide +kernel
theorem dX3_init_13 : decode cX3_init 13 = .ok (.aload_n 0, 1) := by decide +kernel
theorem dX3_init_14 : decode cX3_init 14 = .ok (.bipush 6, 2) := by decide +kernel
theorem dX3_init_16 : decode cX3_init 16 = .ok (.anewarray 15, 3) := by decide +kernel
theorem dX3_init_19 : decode cX3_init 19 = .ok (.putfield 17, 3) := by decide +kernel
theorem dX3_init_22 : decode cX3_init 22 = .ok (.aload_n 0, 1) := by decide +kernel
theorem dX3_init_23 : decode cX3_init 23 = .ok (.lconst 1, 1) := by decide +kernel
theorem dX3_init_24 : decode cX3_init 24 = .ok (.putfield 21, 3) := by decide +kernel
theorem dX3_init_27 : decode cX3_init 27 = .ok (.aload_n 0, 1) := by decide +kernel
theorem dX3_init_28 : decode cX3_init 28 = .ok (.new 25, 3) := by decide +kernel
theorem dX3_init_31 : decode cX3_init 31 = .ok (.dup, 1) := by decide +kernel
theorem dX3_init_32 : decode cX3_init 32 = .ok (.invokespecial 27, 3) := by decide +kernel
theorem dX3_init_35 : decode cX3_init 35 = .ok (.putfield 28, 3) := by decide +kernel
theorem dX3_init_38 : decode cX3_init 38 = .ok (.return_, 1) := by decide +kernel
theorem dX3_blank_0 : decode cX3_blank 0 = .ok (.iload_n 1, 1) := by decide +kernel
theorem dX3_blank_1 : decode cX3_blank 1 = .ok (.invokestatic 32, 3) := by decide +kernel
theorem dX3_blank_4 : decode cX3_blank 4 = .ok (.iload_n 2, 1) := by decide +kernel
theorem dX3_blank_5 : decode cX3_blank 5 = .ok (.bipush 50, 2) := by decide +kernel
theorem dX3_blank_7 : decode cX3_blank 7 = .ok (.sipush 200, 3) := by decide +kernel
theorem dX3_blank_10 : decode cX3_blank 10 = .ok (.invokestatic 36, 3) := by decide +kernel
theorem dX3_blank_13 : decode cX3_blank 13 = .ok (.iload_n 3, 1) := by decide +kernel
theorem dX3_blank_14 : decode cX3_blank 14 = .ok (.bipush 20, 2) := by decide +kernel
theorem dX3_blank_16 : decode cX3_blank 16 = .ok (.bipush 99, 2) := by decide +kernel
theorem dX3_blank_18 : decode cX3_blank 18 = .ok (.invokestatic 36, 3) := by decide +kernel
theorem dX3_blank_21 : decode cX3_blank 21 = .ok (.iload 4, 2) := by decide +kernel
theorem dX3_blank_23 : decode cX3_blank 23 = .ok (.bipush 40, 2) := by decide +kernel
theorem dX3_blank_25 : decode cX3_blank 25 = .ok (.sipush 140, 3) := by decide +kernel
theorem dX3_blank_28 : decode cX3_blank 28 = .ok (.invokestatic 36, 3) := by decide +kernel
theorem dX3_blank_31 : decode cX3_blank 31 = .ok (.aload_n 0, 1) := by decide +kernel
theorem dX3_blank_32 : decode cX3_blank 32 = .ok (.getfield 40, 3) := by decide +kernel
theorem dX3_blank_35 : decode cX3_blank 35 = .ok (.bipush 8, 2) := by decide +kernel
theorem dX3_blank_37 : decode cX3_blank 37 = .ok (.if_icmp .lt 13, 3) := by decide +kernel
theorem dX3_blank_40 : decode cX3_blank 40 = .ok (.new 44, 3) := by decide +kernel
theorem dX3_blank_43 : decode cX3_blank 43 = .ok (.dup, 1) := by decide +kernel
theorem dX3_blank_44 : decode cX3_blank 44 = .ok (.ldc 46, 2) := by decide +kernel
theorem dX3_blank_46 : decode cX3_blank 46 = .ok (.invokespecial 48, 3) := by decide +kernel
theorem dX3_blank_49 : decode cX3_blank 49 = .ok (.athrow, 1) := by decide +kernel
theorem dX3_blank_50 : decode cX3_blank 50 = .ok (.aload_n 0, 1) := by decide +kernel
theorem dX3_blank_51 : decode cX3_blank 51 = .ok (.getfield 11, 3) := by decide +kernel
theorem dX3_blank_54 : decode cX3_blank 54 = .ok (.aload_n 0, 1) := by decide +kernel
theorem dX3_blank_55 : decode cX3_blank 55 = .ok (.getfield 40, 3) := by decide +kernel
theorem dX3_blank_58 : decode cX3_blank 58 = .ok (.new 9, 3) := by decide +kernel
theorem dX3_blank_61 : decode cX3_blank 61 = .ok (.dup, 1) := by decide +kernel
theorem dX3_blank_62 : decode cX3_blank 62 = .ok (.iload_n 1, 1) := by decide +kernel
theorem dX3_blank_63 : decode cX3_blank 63 = .ok (.iload_n 2, 1) := by decide +kernel
theorem dX3_blank_64 : decode cX3_blank 64 = .ok (.iload_n 3, 1) := by decide +kernel
theorem dX3_blank_65 : decode cX3_blank 65 = .ok (.iload 4, 2) := by decide +kernel
theorem dX3_blank_67 : decode cX3_blank 67 = .ok (.invokespecial 51, 3) := by decide +kernel
theorem dX3_blank_70 : decode cX3_blank 70 = .ok (.aastore, 1) := by decide +kernel
theorem dX3_blank_71 : decode cX3_blank 71 = .ok (.aload_n 0, 1) := by decide +kernel
theorem dX3_blank_72 : decode cX3_blank 72 = .ok (.dup, 1) := by decide +kernel
theorem dX3_blank_73 : decode cX3_blank 73 = .ok (.getfield 40, 3) := by decide +kernel
theorem dX3_blank_76 : decode cX3_blank 76 = .ok (.iconst 1, 1) := by decide +kernel
theorem dX3_blank_77 : decode cX3_blank 77 = .ok (.iadd, 1) := by decide +kernel
theorem dX3_blank_78 : decode cX3_blank 78 = .ok (.putfield 40, 3) := by decide +kernel
theorem dX3_blank_81 : decode cX3_blank 81 = .ok (.aload_n 0, 1) := by decide +kernel
theorem dX3_blank_82 : decode cX3_blank 82 = .ok (.getfield 40, 3) := by decide +kernel
theorem dX3_blank_85 : decode cX3_blank 85 = .ok (.iconst 1, 1) := by decide +kernel
theorem dX3_blank_86 : decode cX3_blank 86 = .ok (.isub, 1) := by decide +kernel
theorem dX3_blank_87 : decode cX3_blank 87 = .ok (.ireturn, 1) := by decide +kernel
theorem dX3_cut_0 : decode cX3_cut 0 = .ok (.aload_n 0, 1) := by decide +kernel
theorem dX3_cut_1 : decode cX3_cut 1 = .ok (.iload_n 1, 1) := by decide +kernel
theorem dX3_cut_2 : decode cX3_cut 2 = .ok (.invokevirtual 54, 3) := by decide +kernel
theorem dX3_cut_5 : decode cX3_cut 5 = .ok (.astore 4, 2) := by decide +kernel
theorem dX3_cut_7 : decode cX3_cut 7 = .ok (.iload_n 2, 1) := by decide +kernel
theorem dX3_cut_8 : decode cX3_cut 8 = .ok (.invokestatic 58, 3) := by decide +kernel
theorem dX3_cut_11 : decode cX3_cut 11 = .ok (.iload_n 3, 1) := by decide +kernel
theorem dX3_cut_12 : decode cX3_cut 12 = .ok (.iconst 0, 1) := by decide +kernel
theorem dX3_cut_13 : decode cX3_cut 13 = .ok (.iconst 3, 1) := by decide +kernel
theorem dX3_cut_14 : decode cX3_cut 14 = .ok (.invokestatic 36, 3) := by decide +kernel
theorem dX3_cut_17 : decode cX3_cut 17 = .ok (.iload_n 2, 1) := by decide +kernel
theorem dX3_cut_18 : decode cX3_cut 18 = .ok (.aload 4, 2) := by decide +kernel
theorem dX3_cut_20 : decode cX3_cut 20 = .ok (.getfield 61, 3) := by decide +kernel
theorem dX3_cut_23 : decode cX3_cut 23 = .ok (.invokestatic 65, 3) := by decide +kernel
theorem dX3_cut_26 : decode cX3_cut 26 = .ok (.istore 5, 2) := by decide +kernel
theorem dX3_cut_28 : decode cX3_cut 28 = .ok (.aload 4, 2) := by decide +kernel
theorem dX3_cut_30 : decode cX3_cut 30 = .ok (.getfield 69, 3) := by decide +kernel
theorem dX3_cut_33 : decode cX3_cut 33 = .ok (.bipush 115, 2) := by decide +kernel
theorem dX3_cut_35 : decode cX3_cut 35 = .ok (.if_icmp .ne 27, 3) := by decide +kernel
theorem dX3_cut_38 : decode cX3_cut 38 = .ok (.aload 4, 2) := by decide +kernel
theorem dX3_cut_40 : decode cX3_cut 40 = .ok (.getfield 72, 3) := by decide +kernel
theorem dX3_cut_43 : decode cX3_cut 43 = .ok (.getfield 75, 3) := by decide +kernel
theorem dX3_cut_46 : decode cX3_cut 46 = .ok (.ifCond .gt 16, 3) := by decide +kernel
theorem dX3_cut_49 : decode cX3_cut 49 = .ok (.aload 4, 2) := by decide +kernel
theorem dX3_cut_51 : decode cX3_cut 51 = .ok (.getfield 78, 3) := by decide +kernel
theorem dX3_cut_54 : decode cX3_cut 54 = .ok (.iload 5, 2) := by decide +kernel
theorem dX3_cut_56 : decode cX3_cut 56 = .ok (.bipush 10, 2) := by decide +kernel
theorem dX3_cut_58 : decode cX3_cut 58 = .ok (.iadd, 1) := by decide +kernel
theorem dX3_cut_59 : decode cX3_cut 59 = .ok (.if_icmp .ge 13, 3) := by decide +kernel
theorem dX3_cut_62 : decode cX3_cut 62 = .ok (.new 81, 3) := by decide +kernel
theorem dX3_cut_65 : decode cX3_cut 65 = .ok (.dup, 1) := by decide +kernel
theorem dX3_cut_66 : decode cX3_cut 66 = .ok (.ldc 83, 2) := by decide +kernel
theorem dX3_cut_68 : decode cX3_cut 68 = .ok (.invokespecial 85, 3) := by decide +kernel
theorem dX3_cut_71 : decode cX3_cut 71 = .ok (.athrow, 1) := by decide +kernel
theorem dX3_cut_72 : decode cX3_cut 72 = .ok (.aload 4, 2) := by decide +kernel
theorem dX3_cut_74 : decode cX3_cut 74 = .ok (.getfield 72, 3) := by decide +kernel
theorem dX3_cut_77 : decode cX3_cut 77 = .ok (.iload_n 2, 1) := by decide +kernel
theorem dX3_cut_78 : decode cX3_cut 78 = .ok (.iload 5, 2) := by decide +kernel
theorem dX3_cut_80 : decode cX3_cut 80 = .ok (.iload_n 3, 1) := by decide +kernel
theorem dX3_cut_81 : decode cX3_cut 81 = .ok (.aload 4, 2) := by decide +kernel
theorem dX3_cut_83 : decode cX3_cut 83 = .ok (.getfield 86, 3) := by decide +kernel
theorem dX3_cut_86 : decode cX3_cut 86 = .ok (.invokevirtual 89, 3) := by decide +kernel
theorem dX3_cut_89 : decode cX3_cut 89 = .ok (.aload 4, 2) := by decide +kernel
theorem dX3_cut_91 : decode cX3_cut 91 = .ok (.getfield 72, 3) := by decide +kernel
theorem dX3_cut_94 : decode cX3_cut 94 = .ok (.getfield 75, 3) := by decide +kernel
theorem dX3_cut_97 : decode cX3_cut 97 = .ok (.ireturn, 1) := by decide +kernel
theorem dX3_upcut_0 : decode cX3_upcut 0 = .ok (.aload_n 0, 1) := by decide +kernel
theorem dX3_upcut_1 : decode cX3_upcut 1 = .ok (.iload_n 1, 1) := by decide +kernel
theorem dX3_upcut_2 : decode cX3_upcut 2 = .ok (.invokevirtual 54, 3) := by decide +kernel
theorem dX3_upcut_5 : decode cX3_upcut 5 = .ok (.astore_n 2, 1) := by decide +kernel
theorem dX3_upcut_6 : decode cX3_upcut 6 = .ok (.aload_n 2, 1) := by decide +kernel
theorem dX3_upcut_7 : decode cX3_upcut 7 = .ok (.getfield 61, 3) := by decide +kernel
theorem dX3_upcut_10 : decode cX3_upcut 10 = .ok (.bipush 115, 2) := by decide +kernel
theorem dX3_upcut_12 : decode cX3_upcut 12 = .ok (.if_icmp .eq 32, 3) := by decide +kernel
theorem dX3_upcut_15 : decode cX3_upcut 15 = .ok (.aload_n 2, 1) := by decide +kernel
theorem dX3_upcut_16 : decode cX3_upcut 16 = .ok (.getfield 69, 3) := by decide +kernel
theorem dX3_upcut_19 : decode cX3_upcut 19 = .ok (.bipush 115, 2) := by decide +kernel
theorem dX3_upcut_21 : decode cX3_upcut 21 = .ok (.if_icmp .ne 23, 3) := by decide +kernel
theorem dX3_upcut_24 : decode cX3_upcut 24 = .ok (.aload_n 2, 1) := by decide +kernel
theorem dX3_upcut_25 : decode cX3_upcut 25 = .ok (.getfield 72, 3) := by decide +kernel
theorem dX3_upcut_28 : decode cX3_upcut 28 = .ok (.getfield 75, 3) := by decide +kernel
theorem dX3_upcut_31 : decode cX3_upcut 31 = .ok (.ifCond .eq 13, 3) := by decide +kernel
theorem dX3_upcut_34 : decode cX3_upcut 34 = .ok (.aload_n 2, 1) := by decide +kernel
theorem dX3_upcut_35 : decode cX3_upcut 35 = .ok (.getfield 72, 3) := by decide +kernel
theorem dX3_upcut_38 : decode cX3_upcut 38 = .ok (.getfield 92, 3) := by decide +kernel
theorem dX3_upcut_41 : decode cX3_upcut 41 = .ok (.ifCond .eq 13, 3) := by decide +kernel
theorem dX3_upcut_44 : decode cX3_upcut 44 = .ok (.new 81, 3) := by decide +kernel
theorem dX3_upcut_47 : decode cX3_upcut 47 = .ok (.dup, 1) := by decide +kernel
theorem dX3_upcut_48 : decode cX3_upcut 48 = .ok (.ldc 96, 2) := by decide +kernel
theorem dX3_upcut_50 : decode cX3_upcut 50 = .ok (.invokespecial 85, 3) := by decide +kernel
theorem dX3_upcut_53 : decode cX3_upcut 53 = .ok (.athrow, 1) := by decide +kernel
theorem dX3_upcut_54 : decode cX3_upcut 54 = .ok (.aload_n 2, 1) := by decide +kernel
theorem dX3_upcut_55 : decode cX3_upcut 55 = .ok (.getfield 72, 3) := by decide +kernel
theorem dX3_upcut_58 : decode cX3_upcut 58 = .ok (.invokevirtual 98, 3) := by decide +kernel
theorem dX3_upcut_61 : decode cX3_upcut 61 = .ok (.aload_n 2, 1) := by decide +kernel
theorem dX3_upcut_62 : decode cX3_upcut 62 = .ok (.getfield 72, 3) := by decide +kernel
theorem dX3_upcut_65 : decode cX3_upcut 65 = .ok (.invokevirtual 101, 3) := by decide +kernel
theorem dX3_upcut_68 : decode cX3_upcut 68 = .ok (.ireturn, 1) := by decide +kernel
theorem dX3_teeth_0 : decode cX3_teeth 0 = .ok (.aload_n 0, 1) := by decide +kernel
theorem dX3_teeth_1 : decode cX3_teeth 1 = .ok (.iload_n 1, 1) := by decide +kernel
theorem dX3_teeth_2 : decode cX3_teeth 2 = .ok (.invokevirtual 54, 3) := by decide +kernel
theorem dX3_teeth_5 : decode cX3_teeth 5 = .ok (.getfield 72, 3) := by decide +kernel
theorem dX3_teeth_8 : decode cX3_teeth 8 = .ok (.getfield 75, 3) := by decide +kernel
theorem dX3_teeth_11 : decode cX3_teeth 11 = .ok (.ireturn, 1) := by decide +kernel
theorem dX3_place_0 : decode cX3_place 0 = .ok (.aload_n 0, 1) := by decide +kernel
theorem dX3_place_1 : decode cX3_place 1 = .ok (.iload_n 1, 1) := by decide +kernel
theorem dX3_place_2 : decode cX3_place 2 = .ok (.invokevirtual 54, 3) := by decide +kernel
theorem dX3_place_5 : decode cX3_place 5 = .ok (.getfield 72, 3) := by decide +kernel
theorem dX3_place_8 : decode cX3_place 8 = .ok (.astore_n 3, 1) := by decide +kernel
theorem dX3_place_9 : decode cX3_place 9 = .ok (.aload_n 3, 1) := by decide +kernel
theorem dX3_place_10 : decode cX3_place 10 = .ok (.iload_n 2, 1) := by decide +kernel
theorem dX3_place_11 : decode cX3_place 11 = .ok (.invokestatic 105, 3) := by decide +kernel
theorem dX3_place_14 : decode cX3_place 14 = .ok (.aload_n 3, 1) := by decide +kernel
theorem dX3_place_15 : decode cX3_place 15 = .ok (.getfield 109, 3) := by decide +kernel
theorem dX3_place_18 : decode cX3_place 18 = .ok (.iload_n 2, 1) := by decide +kernel
theorem dX3_place_19 : decode cX3_place 19 = .ok (.iaload, 1) := by decide +kernel
theorem dX3_place_20 : decode cX3_place 20 = .ok (.ireturn, 1) := by decide +kernel
theorem dX3_height_0 : decode cX3_height 0 = .ok (.aload_n 0, 1) := by decide +kernel
theorem dX3_height_1 : decode cX3_height 1 = .ok (.iload_n 1, 1) := by decide +kernel
theorem dX3_height_2 : decode cX3_height 2 = .ok (.invokevirtual 54, 3) := by decide +kernel
theorem dX3_height_5 : decode cX3_height 5 = .ok (.getfield 72, 3) := by decide +kernel
theorem dX3_height_8 : decode cX3_height 8 = .ok (.astore_n 3, 1) := by decide +kernel
theorem dX3_height_9 : decode cX3_height 9 = .ok (.aload_n 3, 1) := by decide +kernel
theorem dX3_height_10 : decode cX3_height 10 = .ok (.iload_n 2, 1) := by decide +kernel
theorem dX3_height_11 : decode cX3_height 11 = .ok (.invokestatic 105, 3) := by decide +kernel
theorem dX3_height_14 : decode cX3_height 14 = .ok (.aload_n 3, 1) := by decide +kernel
theorem dX3_height_15 : decode cX3_height 15 = .ok (.getfield 113, 3) := by decide +kernel
theorem dX3_height_18 : decode cX3_height 18 = .ok (.iload_n 2, 1) := by decide +kernel
theorem dX3_height_19 : decode cX3_height 19 = .ok (.iaload, 1) := by decide +kernel
theorem dX3_height_20 : decode cX3_height 20 = .ok (.ireturn, 1) := by decide +kernel
theorem dX3_wear_0 : decode cX3_wear 0 = .ok (.aload_n 0, 1) := by decide +kernel
theorem dX3_wear_1 : decode cX3_wear 1 = .ok (.iload_n 1, 1) := by decide +kernel
theorem dX3_wear_2 : decode cX3_wear 2 = .ok (.invokevirtual 54, 3) := by decide +kernel
theorem dX3_wear_5 : decode cX3_wear 5 = .ok (.getfield 72, 3) := by decide +kernel
theorem dX3_wear_8 : decode cX3_wear 8 = .ok (.astore_n 3, 1) := by decide +kernel
theorem dX3_wear_9 : decode cX3_wear 9 = .ok (.aload_n 3, 1) := by decide +kernel
theorem dX3_wear_10 : decode cX3_wear 10 = .ok (.iload_n 2, 1) := by decide +kernel
theorem dX3_wear_11 : decode cX3_wear 11 = .ok (.invokestatic 105, 3) := by decide +kernel
theorem dX3_wear_14 : decode cX3_wear 14 = .ok (.aload_n 3, 1) := by decide +kernel
theorem dX3_wear_15 : decode cX3_wear 15 = .ok (.getfield 116, 3) := by decide +kernel
theorem dX3_wear_18 : decode cX3_wear 18 = .ok (.iload_n 2, 1) := by decide +kernel
theorem dX3_wear_19 : decode cX3_wear 19 = .ok (.iaload, 1) := by decide +kernel
theorem dX3_wear_20 : decode cX3_wear 20 = .ok (.ireturn, 1) := by decide +kernel
theorem dX3_sings_0 : decode cX3_sings 0 = .ok (.aload_n 0, 1) := by decide +kernel
theorem dX3_sings_1 : decode cX3_sings 1 = .ok (.iload_n 1, 1) := by decide +kernel
theorem dX3_sings_2 : decode cX3_sings 2 = .ok (.invokevirtual 54, 3) := by decide +kernel
theorem dX3_sings_5 : decode cX3_sings 5 = .ok (.getfield 72, 3) := by decide +kernel
theorem dX3_sings_8 : decode cX3_sings 8 = .ok (.invokevirtual 119, 3) := by decide +kernel
theorem dX3_sings_11 : decode cX3_sings 11 = .ok (.ireturn, 1) := by decide +kernel
theorem dX3_set_0 : decode cX3_set 0 = .ok (.aload_n 0, 1) := by decide +kernel
theorem dX3_set_1 : decode cX3_set 1 = .ok (.iload_n 1, 1) := by decide +kernel
theorem dX3_set_2 : decode cX3_set 2 = .ok (.invokevirtual 54, 3) := by decide +kernel
theorem dX3_set_5 : decode cX3_set 5 = .ok (.astore_n 3, 1) := by decide +kernel
theorem dX3_set_6 : decode cX3_set 6 = .ok (.iload_n 2, 1) := by decide +kernel
theorem dX3_set_7 : decode cX3_set 7 = .ok (.iconst 0, 1) := by decide +kernel
theorem dX3_set_8 : decode cX3_set 8 = .ok (.bipush 9, 2) := by decide +kernel
theorem dX3_set_10 : decode cX3_set 10 = .ok (.invokestatic 36, 3) := by decide +kernel
theorem dX3_set_13 : decode cX3_set 13 = .ok (.aload_n 3, 1) := by decide +kernel
theorem dX3_set_14 : decode cX3_set 14 = .ok (.getfield 61, 3) := by decide +kernel
theorem dX3_set_17 : decode cX3_set 17 = .ok (.bipush 115, 2) := by decide +kernel
theorem dX3_set_19 : decode cX3_set 19 = .ok (.if_icmp .ne 22, 3) := by decide +kernel
theorem dX3_set_22 : decode cX3_set 22 = .ok (.aload_n 3, 1) := by decide +kernel
theorem dX3_set_23 : decode cX3_set 23 = .ok (.getfield 72, 3) := by decide +kernel
theorem dX3_set_26 : decode cX3_set 26 = .ok (.getfield 75, 3) := by decide +kernel
theorem dX3_set_29 : decode cX3_set 29 = .ok (.ifCond .eq 12, 3) := by decide +kernel
theorem dX3_set_32 : decode cX3_set 32 = .ok (.aload_n 3, 1) := by decide +kernel
theorem dX3_set_33 : decode cX3_set 33 = .ok (.getfield 69, 3) := by decide +kernel
theorem dX3_set_36 : decode cX3_set 36 = .ok (.bipush 99, 2) := by decide +kernel
theorem dX3_set_38 : decode cX3_set 38 = .ok (.if_icmp .ne 13, 3) := by decide +kernel
theorem dX3_set_41 : decode cX3_set 41 = .ok (.new 81, 3) := by decide +kernel
theorem dX3_set_44 : decode cX3_set 44 = .ok (.dup, 1) := by decide +kernel
theorem dX3_set_45 : decode cX3_set 45 = .ok (.ldc 123, 2) := by decide +kernel
theorem dX3_set_47 : decode cX3_set 47 = .ok (.invokespecial 85, 3) := by decide +kernel
theorem dX3_set_50 : decode cX3_set 50 = .ok (.athrow, 1) := by decide +kernel
theorem dX3_set_51 : decode cX3_set 51 = .ok (.aload_n 3, 1) := by decide +kernel
theorem dX3_set_52 : decode cX3_set 52 = .ok (.getfield 125, 3) := by decide +kernel
theorem dX3_set_55 : decode cX3_set 55 = .ok (.istore 4, 2) := by decide +kernel
theorem dX3_set_57 : decode cX3_set 57 = .ok (.aload_n 3, 1) := by decide +kernel
theorem dX3_set_58 : decode cX3_set 58 = .ok (.iload_n 2, 1) := by decide +kernel
theorem dX3_set_59 : decode cX3_set 59 = .ok (.putfield 125, 3) := by decide +kernel
theorem dX3_set_62 : decode cX3_set 62 = .ok (.aload_n 3, 1) := by decide +kernel
theorem dX3_set_63 : decode cX3_set 63 = .ok (.invokevirtual 128, 3) := by decide +kernel
theorem dX3_set_66 : decode cX3_set 66 = .ok (.iload 4, 2) := by decide +kernel
theorem dX3_set_68 : decode cX3_set 68 = .ok (.ireturn, 1) := by decide +kernel
theorem dX3_kerf_0 : decode cX3_kerf 0 = .ok (.aload_n 0, 1) := by decide +kernel
theorem dX3_kerf_1 : decode cX3_kerf 1 = .ok (.iload_n 1, 1) := by decide +kernel
theorem dX3_kerf_2 : decode cX3_kerf 2 = .ok (.invokevirtual 54, 3) := by decide +kernel
theorem dX3_kerf_5 : decode cX3_kerf 5 = .ok (.astore_n 2, 1) := by decide +kernel
theorem dX3_kerf_6 : decode cX3_kerf 6 = .ok (.aload_n 2, 1) := by decide +kernel
theorem dX3_kerf_7 : decode cX3_kerf 7 = .ok (.getfield 78, 3) := by decide +kernel
theorem dX3_kerf_10 : decode cX3_kerf 10 = .ok (.iconst 2, 1) := by decide +kernel
theorem dX3_kerf_11 : decode cX3_kerf 11 = .ok (.aload_n 2, 1) := by decide +kernel
theorem dX3_kerf_12 : decode cX3_kerf 12 = .ok (.getfield 125, 3) := by decide +kernel
theorem dX3_kerf_15 : decode cX3_kerf 15 = .ok (.imul, 1) := by decide +kernel
theorem dX3_kerf_16 : decode cX3_kerf 16 = .ok (.iadd, 1) := by decide +kernel
theorem dX3_kerf_17 : decode cX3_kerf 17 = .ok (.ireturn, 1) := by decide +kernel
theorem dX3_gullets_0 : decode cX3_gullets 0 = .ok (.aload_n 0, 1) := by decide +kernel
theorem dX3_gullets_1 : decode cX3_gullets 1 = .ok (.iload_n 1, 1) := by decide +kernel
theorem dX3_gullets_2 : decode cX3_gullets 2 = .ok (.invokevirtual 54, 3) := by decide +kernel
theorem dX3_gullets_5 : decode cX3_gullets 5 = .ok (.invokevirtual 131, 3) := by decide +kernel
theorem dX3_gullets_8 : decode cX3_gullets 8 = .ok (.ireturn, 1) := by decide +kernel
theorem dX3_thickness_0 : decode cX3_thickness 0 = .ok (.aload_n 0, 1) := by decide +kernel
theorem dX3_thickness_1 : decode cX3_thickness 1 = .ok (.iload_n 1, 1) := by decide +kernel
theorem dX3_thickness_2 : decode cX3_thickness 2 = .ok (.invokevirtual 54, 3) := by decide +kernel
theorem dX3_thickness_5 : decode cX3_thickness 5 = .ok (.getfield 78, 3) := by decide +kernel
theorem dX3_thickness_8 : decode cX3_thickness 8 = .ok (.ireturn, 1) := by decide +kernel
theorem dX3_state_0 : decode cX3_state 0 = .ok (.aload_n 0, 1) := by decide +kernel
theorem dX3_state_1 : decode cX3_state 1 = .ok (.iload_n 1, 1) := by decide +kernel
theorem dX3_state_2 : decode cX3_state 2 = .ok (.invokevirtual 54, 3) := by decide +kernel
theorem dX3_state_5 : decode cX3_state 5 = .ok (.getfield 69, 3) := by decide +kernel
theorem dX3_state_8 : decode cX3_state 8 = .ok (.ireturn, 1) := by decide +kernel
theorem dX3_harden_0 : decode cX3_harden 0 = .ok (.aload_n 0, 1) := by decide +kernel
theorem dX3_harden_1 : decode cX3_harden 1 = .ok (.iload_n 1, 1) := by decide +kernel
theorem dX3_harden_2 : decode cX3_harden 2 = .ok (.invokevirtual 54, 3) := by decide +kernel
theorem dX3_harden_5 : decode cX3_harden 5 = .ok (.astore 4, 2) := by decide +kernel
theorem dX3_harden_7 : decode cX3_harden 7 = .ok (.iload_n 3, 1) := by decide +kernel
theorem dX3_harden_8 : decode cX3_harden 8 = .ok (.invokestatic 134, 3) := by decide +kernel
theorem dX3_harden_11 : decode cX3_harden 11 = .ok (.iload_n 2, 1) := by decide +kernel
theorem dX3_harden_12 : decode cX3_harden 12 = .ok (.sipush 600, 3) := by decide +kernel
theorem dX3_harden_15 : decode cX3_harden 15 = .ok (.sipush 1200, 3) := by decide +kernel
theorem dX3_harden_18 : decode cX3_harden 18 = .ok (.invokestatic 36, 3) := by decide +kernel
theorem dX3_harden_21 : decode cX3_harden 21 = .ok (.aload 4, 2) := by decide +kernel
theorem dX3_harden_23 : decode cX3_harden 23 = .ok (.getfield 69, 3) := by decide +kernel
theorem dX3_harden_26 : decode cX3_harden 26 = .ok (.bipush 115, 2) := by decide +kernel
theorem dX3_harden_28 : decode cX3_harden 28 = .ok (.if_icmp .ne 14, 3) := by decide +kernel
theorem dX3_harden_31 : decode cX3_harden 31 = .ok (.aload 4, 2) := by decide +kernel
theorem dX3_harden_33 : decode cX3_harden 33 = .ok (.getfield 72, 3) := by decide +kernel
theorem dX3_harden_36 : decode cX3_harden 36 = .ok (.getfield 75, 3) := by decide +kernel
theorem dX3_harden_39 : decode cX3_harden 39 = .ok (.ifCond .ne 13, 3) := by decide +kernel
theorem dX3_harden_42 : decode cX3_harden 42 = .ok (.new 81, 3) := by decide +kernel
theorem dX3_harden_45 : decode cX3_harden 45 = .ok (.dup, 1) := by decide +kernel
theorem dX3_harden_46 : decode cX3_harden 46 = .ok (.ldc 137, 2) := by decide +kernel
theorem dX3_harden_48 : decode cX3_harden 48 = .ok (.invokespecial 85, 3) := by decide +kernel
theorem dX3_harden_51 : decode cX3_harden 51 = .ok (.athrow, 1) := by decide +kernel
theorem dX3_harden_52 : decode cX3_harden 52 = .ok (.iload_n 2, 1) := by decide +kernel
theorem dX3_harden_53 : decode cX3_harden 53 = .ok (.sipush 900, 3) := by decide +kernel
theorem dX3_harden_56 : decode cX3_harden 56 = .ok (.aload 4, 2) := by decide +kernel
theorem dX3_harden_58 : decode cX3_harden 58 = .ok (.getfield 139, 3) := by decide +kernel
theorem dX3_harden_61 : decode cX3_harden 61 = .ok (.isub, 1) := by decide +kernel
theorem dX3_harden_62 : decode cX3_harden 62 = .ok (.if_icmp .ge 5, 3) := by decide +kernel
theorem dX3_harden_65 : decode cX3_harden 65 = .ok (.iconst 0, 1) := by decide +kernel
theorem dX3_harden_66 : decode cX3_harden 66 = .ok (.ireturn, 1) := by decide +kernel
theorem dX3_harden_67 : decode cX3_harden 67 = .ok (.aload_n 0, 1) := by decide +kernel
theorem dX3_harden_68 : decode cX3_harden 68 = .ok (.aload_n 0, 1) := by decide +kernel
theorem dX3_harden_69 : decode cX3_harden 69 = .ok (.getfield 21, 3) := by decide +kernel
theorem dX3_harden_72 : decode cX3_harden 72 = .ok (.ldc2_w 142, 3) := by decide +kernel
theorem dX3_harden_75 : decode cX3_harden 75 = .ok (.lmul, 1) := by decide +kernel
theorem dX3_harden_76 : decode cX3_harden 76 = .ok (.ldc2_w 144, 3) := by decide +kernel
theorem dX3_harden_79 : decode cX3_harden 79 = .ok (.lrem, 1) := by decide +kernel
theorem dX3_harden_80 : decode cX3_harden 80 = .ok (.putfield 21, 3) := by decide +kernel
theorem dX3_harden_83 : decode cX3_harden 83 = .ok (.aload 4, 2) := by decide +kernel
theorem dX3_harden_85 : decode cX3_harden 85 = .ok (.iload_n 2, 1) := by decide +kernel
theorem dX3_harden_86 : decode cX3_harden 86 = .ok (.iload_n 3, 1) := by decide +kernel
theorem dX3_harden_87 : decode cX3_harden 87 = .ok (.invokestatic 146, 3) := by decide +kernel
theorem dX3_harden_90 : decode cX3_harden 90 = .ok (.aload_n 0, 1) := by decide +kernel
theorem dX3_harden_91 : decode cX3_harden 91 = .ok (.getfield 21, 3) := by decide +kernel
theorem dX3_harden_94 : decode cX3_harden 94 = .ok (.ldc2_w 150, 3) := by decide +kernel
theorem dX3_harden_97 : decode cX3_harden 97 = .ok (.lrem, 1) := by decide +kernel
theorem dX3_harden_98 : decode cX3_harden 98 = .ok (.l2i, 1) := by decide +kernel
theorem dX3_harden_99 : decode cX3_harden 99 = .ok (.invokevirtual 152, 3) := by decide +kernel
theorem dX3_harden_102 : decode cX3_harden 102 = .ok (.aload 4, 2) := by decide +kernel
theorem dX3_harden_104 : decode cX3_harden 104 = .ok (.getfield 155, 3) := by decide +kernel
theorem dX3_harden_107 : decode cX3_harden 107 = .ok (.ireturn, 1) := by decide +kernel
theorem dX3_hardness_0 : decode cX3_hardness 0 = .ok (.aload_n 0, 1) := by decide +kernel
theorem dX3_hardness_1 : decode cX3_hardness 1 = .ok (.iload_n 1, 1) := by decide +kernel
theorem dX3_hardness_2 : decode cX3_hardness 2 = .ok (.invokevirtual 54, 3) := by decide +kernel
theorem dX3_hardness_5 : decode cX3_hardness 5 = .ok (.getfield 155, 3) := by decide +kernel
theorem dX3_hardness_8 : decode cX3_hardness 8 = .ok (.ireturn, 1) := by decide +kernel
theorem dX3_bend_0 : decode cX3_bend 0 = .ok (.aload_n 0, 1) := by decide +kernel
theorem dX3_bend_1 : decode cX3_bend 1 = .ok (.iload_n 1, 1) := by decide +kernel
theorem dX3_bend_2 : decode cX3_bend 2 = .ok (.invokevirtual 54, 3) := by decide +kernel
theorem dX3_bend_5 : decode cX3_bend 5 = .ok (.getfield 158, 3) := by decide +kernel
theorem dX3_bend_8 : decode cX3_bend 8 = .ok (.ireturn, 1) := by decide +kernel
theorem dX3_temper_0 : decode cX3_temper 0 = .ok (.aload_n 0, 1) := by decide +kernel
theorem dX3_temper_1 : decode cX3_temper 1 = .ok (.iload_n 1, 1) := by decide +kernel
theorem dX3_temper_2 : decode cX3_temper 2 = .ok (.invokevirtual 54, 3) := by decide +kernel
theorem dX3_temper_5 : decode cX3_temper 5 = .ok (.astore_n 3, 1) := by decide +kernel
theorem dX3_temper_6 : decode cX3_temper 6 = .ok (.iload_n 2, 1) := by decide +kernel
theorem dX3_temper_7 : decode cX3_temper 7 = .ok (.bipush 100, 2) := by decide +kernel
theorem dX3_temper_9 : decode cX3_temper 9 = .ok (.sipush 400, 3) := by decide +kernel
theorem dX3_temper_12 : decode cX3_temper 12 = .ok (.invokestatic 36, 3) := by decide +kernel
theorem dX3_temper_15 : decode cX3_temper 15 = .ok (.aload_n 3, 1) := by decide +kernel
theorem dX3_temper_16 : decode cX3_temper 16 = .ok (.invokestatic 161, 3) := by decide +kernel
theorem dX3_temper_19 : decode cX3_temper 19 = .ok (.aload_n 3, 1) := by decide +kernel
theorem dX3_temper_20 : decode cX3_temper 20 = .ok (.iconst 1, 1) := by decide +kernel
theorem dX3_temper_21 : decode cX3_temper 21 = .ok (.aload_n 3, 1) := by decide +kernel
theorem dX3_temper_22 : decode cX3_temper 22 = .ok (.getfield 155, 3) := by decide +kernel
theorem dX3_temper_25 : decode cX3_temper 25 = .ok (.iload_n 2, 1) := by decide +kernel
theorem dX3_temper_26 : decode cX3_temper 26 = .ok (.bipush 25, 2) := by decide +kernel
theorem dX3_temper_28 : decode cX3_temper 28 = .ok (.idiv, 1) := by decide +kernel
theorem dX3_temper_29 : decode cX3_temper 29 = .ok (.isub, 1) := by decide +kernel
theorem dX3_temper_30 : decode cX3_temper 30 = .ok (.invokestatic 165, 3) := by decide +kernel
theorem dX3_temper_33 : decode cX3_temper 33 = .ok (.putfield 155, 3) := by decide +kernel
theorem dX3_temper_36 : decode cX3_temper 36 = .ok (.aload_n 3, 1) := by decide +kernel
theorem dX3_temper_37 : decode cX3_temper 37 = .ok (.iconst 2, 1) := by decide +kernel
theorem dX3_temper_38 : decode cX3_temper 38 = .ok (.putfield 171, 3) := by decide +kernel
theorem dX3_temper_41 : decode cX3_temper 41 = .ok (.aload_n 3, 1) := by decide +kernel
theorem dX3_temper_42 : decode cX3_temper 42 = .ok (.getfield 155, 3) := by decide +kernel
theorem dX3_temper_45 : decode cX3_temper 45 = .ok (.ireturn, 1) := by decide +kernel
theorem dX3_straighten_0 : decode cX3_straighten 0 = .ok (.aload_n 0, 1) := by decide +kernel
theorem dX3_straighten_1 : decode cX3_straighten 1 = .ok (.iload_n 1, 1) := by decide +kernel
theorem dX3_straighten_2 : decode cX3_straighten 2 = .ok (.invokevirtual 54, 3) := by decide +kernel
theorem dX3_straighten_5 : decode cX3_straighten 5 = .ok (.astore_n 3, 1) := by decide +kernel
theorem dX3_straighten_6 : decode cX3_straighten 6 = .ok (.iload_n 2, 1) := by decide +kernel
theorem dX3_straighten_7 : decode cX3_straighten 7 = .ok (.iconst 1, 1) := by decide +kernel
theorem dX3_straighten_8 : decode cX3_straighten 8 = .ok (.bipush 6, 2) := by decide +kernel
theorem dX3_straighten_10 : decode cX3_straighten 10 = .ok (.invokestatic 36, 3) := by decide +kernel
theorem dX3_straighten_13 : decode cX3_straighten 13 = .ok (.aload_n 3, 1) := by decide +kernel
theorem dX3_straighten_14 : decode cX3_straighten 14 = .ok (.getfield 171, 3) := by decide +kernel
theorem dX3_straighten_17 : decode cX3_straighten 17 = .ok (.ifCond .ne 13, 3) := by decide +kernel
theorem dX3_straighten_20 : decode cX3_straighten 20 = .ok (.new 81, 3) := by decide +kernel
theorem dX3_straighten_23 : decode cX3_straighten 23 = .ok (.dup, 1) := by decide +kernel
theorem dX3_straighten_24 : decode cX3_straighten 24 = .ok (.ldc 174, 2) := by decide +kernel
theorem dX3_straighten_26 : decode cX3_straighten 26 = .ok (.invokespecial 85, 3) := by decide +kernel
theorem dX3_straighten_29 : decode cX3_straighten 29 = .ok (.athrow, 1) := by decide +kernel
theorem dX3_straighten_30 : decode cX3_straighten 30 = .ok (.aload_n 3, 1) := by decide +kernel
theorem dX3_straighten_31 : decode cX3_straighten 31 = .ok (.dup, 1) := by decide +kernel
theorem dX3_straighten_32 : decode cX3_straighten 32 = .ok (.getfield 171, 3) := by decide +kernel
theorem dX3_straighten_35 : decode cX3_straighten 35 = .ok (.iconst 1, 1) := by decide +kernel
theorem dX3_straighten_36 : decode cX3_straighten 36 = .ok (.isub, 1) := by decide +kernel
theorem dX3_straighten_37 : decode cX3_straighten 37 = .ok (.putfield 171, 3) := by decide +kernel
theorem dX3_straighten_40 : decode cX3_straighten 40 = .ok (.aload_n 3, 1) := by decide +kernel
theorem dX3_straighten_41 : decode cX3_straighten 41 = .ok (.iconst 0, 1) := by decide +kernel
theorem dX3_straighten_42 : decode cX3_straighten 42 = .ok (.aload_n 3, 1) := by decide +kernel
theorem dX3_straighten_43 : decode cX3_straighten 43 = .ok (.getfield 158, 3) := by decide +kernel
theorem dX3_straighten_46 : decode cX3_straighten 46 = .ok (.iload_n 2, 1) := by decide +kernel
theorem dX3_straighten_47 : decode cX3_straighten 47 = .ok (.isub, 1) := by decide +kernel
theorem dX3_straighten_48 : decode cX3_straighten 48 = .ok (.invokestatic 165, 3) := by decide +kernel
theorem dX3_straighten_51 : decode cX3_straighten 51 = .ok (.putfield 158, 3) := by decide +kernel
theorem dX3_straighten_54 : decode cX3_straighten 54 = .ok (.aload_n 3, 1) := by decide +kernel
theorem dX3_straighten_55 : decode cX3_straighten 55 = .ok (.getfield 158, 3) := by decide +kernel
theorem dX3_straighten_58 : decode cX3_straighten 58 = .ok (.ireturn, 1) := by decide +kernel
theorem dX3_seed_0 : decode cX3_seed 0 = .ok (.iload_n 1, 1) := by decide +kernel
theorem dX3_seed_1 : decode cX3_seed 1 = .ok (.iconst 1, 1) := by decide +kernel
theorem dX3_seed_2 : decode cX3_seed 2 = .ok (.ldc 176, 2) := by decide +kernel
theorem dX3_seed_4 : decode cX3_seed 4 = .ok (.invokestatic 36, 3) := by decide +kernel
theorem dX3_seed_7 : decode cX3_seed 7 = .ok (.aload_n 0, 1) := by decide +kernel
theorem dX3_seed_8 : decode cX3_seed 8 = .ok (.getfield 21, 3) := by decide +kernel
theorem dX3_seed_11 : decode cX3_seed 11 = .ok (.l2i, 1) := by decide +kernel
theorem dX3_seed_12 : decode cX3_seed 12 = .ok (.istore_n 2, 1) := by decide +kernel
theorem dX3_seed_13 : decode cX3_seed 13 = .ok (.aload_n 0, 1) := by decide +kernel
theorem dX3_seed_14 : decode cX3_seed 14 = .ok (.iload_n 1, 1) := by decide +kernel
theorem dX3_seed_15 : decode cX3_seed 15 = .ok (.i2l, 1) := by decide +kernel
theorem dX3_seed_16 : decode cX3_seed 16 = .ok (.putfield 21, 3) := by decide +kernel
theorem dX3_seed_19 : decode cX3_seed 19 = .ok (.iload_n 2, 1) := by decide +kernel
theorem dX3_seed_20 : decode cX3_seed 20 = .ok (.ireturn, 1) := by decide +kernel
theorem dX3_strokes_0 : decode cX3_strokes 0 = .ok (.aload_n 0, 1) := by decide +kernel
theorem dX3_strokes_1 : decode cX3_strokes 1 = .ok (.iload_n 1, 1) := by decide +kernel
theorem dX3_strokes_2 : decode cX3_strokes 2 = .ok (.invokevirtual 54, 3) := by decide +kernel
theorem dX3_strokes_5 : decode cX3_strokes 5 = .ok (.astore 4, 2) := by decide +kernel
theorem dX3_strokes_7 : decode cX3_strokes 7 = .ok (.iload_n 2, 1) := by decide +kernel
theorem dX3_strokes_8 : decode cX3_strokes 8 = .ok (.iconst 1, 1) := by decide +kernel
theorem dX3_strokes_9 : decode cX3_strokes 9 = .ok (.bipush 70, 2) := by decide +kernel
theorem dX3_strokes_11 : decode cX3_strokes 11 = .ok (.invokestatic 36, 3) := by decide +kernel
theorem dX3_strokes_14 : decode cX3_strokes 14 = .ok (.iload_n 3, 1) := by decide +kernel
theorem dX3_strokes_15 : decode cX3_strokes 15 = .ok (.iconst 1, 1) := by decide +kernel
theorem dX3_strokes_16 : decode cX3_strokes 16 = .ok (.bipush 40, 2) := by decide +kernel
theorem dX3_strokes_18 : decode cX3_strokes 18 = .ok (.invokestatic 36, 3) := by decide +kernel
theorem dX3_strokes_21 : decode cX3_strokes 21 = .ok (.aload 4, 2) := by decide +kernel
theorem dX3_strokes_23 : decode cX3_strokes 23 = .ok (.invokestatic 161, 3) := by decide +kernel
theorem dX3_strokes_26 : decode cX3_strokes 26 = .ok (.aload 4, 2) := by decide +kernel
theorem dX3_strokes_28 : decode cX3_strokes 28 = .ok (.iload_n 2, 1) := by decide +kernel
theorem dX3_strokes_29 : decode cX3_strokes 29 = .ok (.iload_n 3, 1) := by decide +kernel
theorem dX3_strokes_30 : decode cX3_strokes 30 = .ok (.invokevirtual 177, 3) := by decide +kernel
theorem dX3_strokes_33 : decode cX3_strokes 33 = .ok (.ireturn, 1) := by decide +kernel
theorem dX3_chips_0 : decode cX3_chips 0 = .ok (.aload_n 0, 1) := by decide +kernel
theorem dX3_chips_1 : decode cX3_chips 1 = .ok (.iload_n 1, 1) := by decide +kernel
theorem dX3_chips_2 : decode cX3_chips 2 = .ok (.invokevirtual 54, 3) := by decide +kernel
theorem dX3_chips_5 : decode cX3_chips 5 = .ok (.getfield 180, 3) := by decide +kernel
theorem dX3_chips_8 : decode cX3_chips 8 = .ok (.ireturn, 1) := by decide +kernel
theorem dX3_brush_0 : decode cX3_brush 0 = .ok (.aload_n 0, 1) := by decide +kernel
theorem dX3_brush_1 : decode cX3_brush 1 = .ok (.iload_n 1, 1) := by decide +kernel
theorem dX3_brush_2 : decode cX3_brush 2 = .ok (.invokevirtual 54, 3) := by decide +kernel
theorem dX3_brush_5 : decode cX3_brush 5 = .ok (.astore_n 2, 1) := by decide +kernel
theorem dX3_brush_6 : decode cX3_brush 6 = .ok (.aload_n 2, 1) := by decide +kernel
theorem dX3_brush_7 : decode cX3_brush 7 = .ok (.getfield 180, 3) := by decide +kernel
theorem dX3_brush_10 : decode cX3_brush 10 = .ok (.istore_n 3, 1) := by decide +kernel
theorem dX3_brush_11 : decode cX3_brush 11 = .ok (.aload_n 2, 1) := by decide +kernel
theorem dX3_brush_12 : decode cX3_brush 12 = .ok (.iconst 0, 1) := by decide +kernel
theorem dX3_brush_13 : decode cX3_brush 13 = .ok (.putfield 180, 3) := by decide +kernel
theorem dX3_brush_16 : decode cX3_brush 16 = .ok (.aload_n 2, 1) := by decide +kernel
theorem dX3_brush_17 : decode cX3_brush 17 = .ok (.invokevirtual 128, 3) := by decide +kernel
theorem dX3_brush_20 : decode cX3_brush 20 = .ok (.iload_n 3, 1) := by decide +kernel
theorem dX3_brush_21 : decode cX3_brush 21 = .ok (.ireturn, 1) := by decide +kernel
theorem dX3_work_0 : decode cX3_work 0 = .ok (.aload_n 0, 1) := by decide +kernel
theorem dX3_work_1 : decode cX3_work 1 = .ok (.iload_n 1, 1) := by decide +kernel
theorem dX3_work_2 : decode cX3_work 2 = .ok (.invokevirtual 54, 3) := by decide +kernel
theorem dX3_work_5 : decode cX3_work 5 = .ok (.getfield 183, 3) := by decide +kernel
theorem dX3_work_8 : decode cX3_work 8 = .ok (.ireturn, 1) := by decide +kernel
theorem dX3_soften_0 : decode cX3_soften 0 = .ok (.aload_n 0, 1) := by decide +kernel
theorem dX3_soften_1 : decode cX3_soften 1 = .ok (.iload_n 1, 1) := by decide +kernel
theorem dX3_soften_2 : decode cX3_soften 2 = .ok (.invokevirtual 54, 3) := by decide +kernel
theorem dX3_soften_5 : decode cX3_soften 5 = .ok (.astore_n 2, 1) := by decide +kernel
theorem dX3_soften_6 : decode cX3_soften 6 = .ok (.aload_n 2, 1) := by decide +kernel
theorem dX3_soften_7 : decode cX3_soften 7 = .ok (.invokestatic 161, 3) := by decide +kernel
theorem dX3_soften_10 : decode cX3_soften 10 = .ok (.aload_n 2, 1) := by decide +kernel
theorem dX3_soften_11 : decode cX3_soften 11 = .ok (.getfield 155, 3) := by decide +kernel
theorem dX3_soften_14 : decode cX3_soften 14 = .ok (.istore_n 3, 1) := by decide +kernel
theorem dX3_soften_15 : decode cX3_soften 15 = .ok (.aload_n 2, 1) := by decide +kernel
theorem dX3_soften_16 : decode cX3_soften 16 = .ok (.bipush 115, 2) := by decide +kernel
theorem dX3_soften_18 : decode cX3_soften 18 = .ok (.putfield 69, 3) := by decide +kernel
theorem dX3_soften_21 : decode cX3_soften 21 = .ok (.aload_n 2, 1) := by decide +kernel
theorem dX3_soften_22 : decode cX3_soften 22 = .ok (.iconst 0, 1) := by decide +kernel
theorem dX3_soften_23 : decode cX3_soften 23 = .ok (.putfield 155, 3) := by decide +kernel
theorem dX3_soften_26 : decode cX3_soften 26 = .ok (.aload_n 2, 1) := by decide +kernel
theorem dX3_soften_27 : decode cX3_soften 27 = .ok (.invokevirtual 128, 3) := by decide +kernel
theorem dX3_soften_30 : decode cX3_soften 30 = .ok (.iload_n 3, 1) := by decide +kernel
theorem dX3_soften_31 : decode cX3_soften 31 = .ok (.ireturn, 1) := by decide +kernel
theorem dX3_grind_0 : decode cX3_grind 0 = .ok (.aload_n 0, 1) := by decide +kernel
theorem dX3_grind_1 : decode cX3_grind 1 = .ok (.iload_n 1, 1) := by decide +kernel
theorem dX3_grind_2 : decode cX3_grind 2 = .ok (.invokevirtual 54, 3) := by decide +kernel
theorem dX3_grind_5 : decode cX3_grind 5 = .ok (.astore_n 2, 1) := by decide +kernel
theorem dX3_grind_6 : decode cX3_grind 6 = .ok (.aload_n 2, 1) := by decide +kernel
theorem dX3_grind_7 : decode cX3_grind 7 = .ok (.getfield 69, 3) := by decide +kernel
theorem dX3_grind_10 : decode cX3_grind 10 = .ok (.bipush 115, 2) := by decide +kernel
theorem dX3_grind_12 : decode cX3_grind 12 = .ok (.if_icmp .ne 22, 3) := by decide +kernel
theorem dX3_grind_15 : decode cX3_grind 15 = .ok (.aload_n 2, 1) := by decide +kernel
theorem dX3_grind_16 : decode cX3_grind 16 = .ok (.getfield 72, 3) := by decide +kernel
theorem dX3_grind_19 : decode cX3_grind 19 = .ok (.getfield 75, 3) := by decide +kernel
theorem dX3_grind_22 : decode cX3_grind 22 = .ok (.ifCond .eq 12, 3) := by decide +kernel
theorem dX3_grind_25 : decode cX3_grind 25 = .ok (.aload_n 2, 1) := by decide +kernel
theorem dX3_grind_26 : decode cX3_grind 26 = .ok (.invokevirtual 186, 3) := by decide +kernel
theorem dX3_grind_29 : decode cX3_grind 29 = .ok (.bipush 20, 2) := by decide +kernel
theorem dX3_grind_31 : decode cX3_grind 31 = .ok (.if_icmp .ge 13, 3) := by decide +kernel
theorem dX3_grind_34 : decode cX3_grind 34 = .ok (.new 81, 3) := by decide +kernel
theorem dX3_grind_37 : decode cX3_grind 37 = .ok (.dup, 1) := by decide +kernel
theorem dX3_grind_38 : decode cX3_grind 38 = .ok (.ldc 189, 2) := by decide +kernel
theorem dX3_grind_40 : decode cX3_grind 40 = .ok (.invokespecial 85, 3) := by decide +kernel
theorem dX3_grind_43 : decode cX3_grind 43 = .ok (.athrow, 1) := by decide +kernel
theorem dX3_grind_44 : decode cX3_grind 44 = .ok (.aload_n 2, 1) := by decide +kernel
theorem dX3_grind_45 : decode cX3_grind 45 = .ok (.invokevirtual 191, 3) := by decide +kernel
theorem dX3_grind_48 : decode cX3_grind 48 = .ok (.aload_n 2, 1) := by decide +kernel
theorem dX3_grind_49 : decode cX3_grind 49 = .ok (.getfield 78, 3) := by decide +kernel
theorem dX3_grind_52 : decode cX3_grind 52 = .ok (.ireturn, 1) := by decide +kernel
theorem dX3_recuts_0 : decode cX3_recuts 0 = .ok (.aload_n 0, 1) := by decide +kernel
theorem dX3_recuts_1 : decode cX3_recuts 1 = .ok (.iload_n 1, 1) := by decide +kernel
theorem dX3_recuts_2 : decode cX3_recuts 2 = .ok (.invokevirtual 54, 3) := by decide +kernel
theorem dX3_recuts_5 : decode cX3_recuts 5 = .ok (.getfield 194, 3) := by decide +kernel
theorem dX3_recuts_8 : decode cX3_recuts 8 = .ok (.ireturn, 1) := by decide +kernel
theorem dX3_recutsLeft_0 : decode cX3_recutsLeft 0 = .ok (.aload_n 0, 1) := by decide +kernel
theorem dX3_recutsLeft_1 : decode cX3_recutsLeft 1 = .ok (.iload_n 1, 1) := by decide +kernel
theorem dX3_recutsLeft_2 : decode cX3_recutsLeft 2 = .ok (.invokevirtual 54, 3) := by decide +kernel
theorem dX3_recutsLeft_5 : decode cX3_recutsLeft 5 = .ok (.astore_n 3, 1) := by decide +kernel
theorem dX3_recutsLeft_6 : decode cX3_recutsLeft 6 = .ok (.iload_n 2, 1) := by decide +kernel
theorem dX3_recutsLeft_7 : decode cX3_recutsLeft 7 = .ok (.invokestatic 58, 3) := by decide +kernel
theorem dX3_recutsLeft_10 : decode cX3_recutsLeft 10 = .ok (.aload_n 3, 1) := by decide +kernel
theorem dX3_recutsLeft_11 : decode cX3_recutsLeft 11 = .ok (.getfield 78, 3) := by decide +kernel
theorem dX3_recutsLeft_14 : decode cX3_recutsLeft 14 = .ok (.istore 4, 2) := by decide +kernel
theorem dX3_recutsLeft_16 : decode cX3_recutsLeft 16 = .ok (.iconst 0, 1) := by decide +kernel
theorem dX3_recutsLeft_17 : decode cX3_recutsLeft 17 = .ok (.istore 5, 2) := by decide +kernel
theorem dX3_recutsLeft_19 : decode cX3_recutsLeft 19 = .ok (.aload_n 3, 1) := by decide +kernel
theorem dX3_recutsLeft_20 : decode cX3_recutsLeft 20 = .ok (.getfield 72, 3) := by decide +kernel
theorem dX3_recutsLeft_23 : decode cX3_recutsLeft 23 = .ok (.getfield 75, 3) := by decide +kernel
theorem dX3_recutsLeft_26 : decode cX3_recutsLeft 26 = .ok (.ifCond .le 12, 3) := by decide +kernel
theorem dX3_recutsLeft_29 : decode cX3_recutsLeft 29 = .ok (.aload_n 3, 1) := by decide +kernel
theorem dX3_recutsLeft_30 : decode cX3_recutsLeft 30 = .ok (.invokevirtual 186, 3) := by decide +kernel
theorem dX3_recutsLeft_33 : decode cX3_recutsLeft 33 = .ok (.istore 4, 2) := by decide +kernel
theorem dX3_recutsLeft_35 : decode cX3_recutsLeft 35 = .ok (.iconst 1, 1) := by decide +kernel
theorem dX3_recutsLeft_36 : decode cX3_recutsLeft 36 = .ok (.istore 5, 2) := by decide +kernel
theorem dX3_recutsLeft_38 : decode cX3_recutsLeft 38 = .ok (.iload_n 2, 1) := by decide +kernel
theorem dX3_recutsLeft_39 : decode cX3_recutsLeft 39 = .ok (.aload_n 3, 1) := by decide +kernel
theorem dX3_recutsLeft_40 : decode cX3_recutsLeft 40 = .ok (.getfield 61, 3) := by decide +kernel
theorem dX3_recutsLeft_43 : decode cX3_recutsLeft 43 = .ok (.invokestatic 65, 3) := by decide +kernel
theorem dX3_recutsLeft_46 : decode cX3_recutsLeft 46 = .ok (.iconst 2, 1) := by decide +kernel
theorem dX3_recutsLeft_47 : decode cX3_recutsLeft 47 = .ok (.iadd, 1) := by decide +kernel
theorem dX3_recutsLeft_48 : decode cX3_recutsLeft 48 = .ok (.istore 6, 2) := by decide +kernel
theorem dX3_recutsLeft_50 : decode cX3_recutsLeft 50 = .ok (.iload 4, 2) := by decide +kernel
theorem dX3_recutsLeft_52 : decode cX3_recutsLeft 52 = .ok (.bipush 20, 2) := by decide +kernel
theorem dX3_recutsLeft_54 : decode cX3_recutsLeft 54 = .ok (.if_icmp .lt 8, 3) := by decide +kernel
theorem dX3_recutsLeft_57 : decode cX3_recutsLeft 57 = .ok (.iload 6, 2) := by decide +kernel
theorem dX3_recutsLeft_59 : decode cX3_recutsLeft 59 = .ok (.ifCond .gt 5, 3) := by decide +kernel
theorem dX3_recutsLeft_62 : decode cX3_recutsLeft 62 = .ok (.iconst 0, 1) := by decide +kernel
theorem dX3_recutsLeft_63 : decode cX3_recutsLeft 63 = .ok (.ireturn, 1) := by decide +kernel
theorem dX3_recutsLeft_64 : decode cX3_recutsLeft 64 = .ok (.iload 5, 2) := by decide +kernel
theorem dX3_recutsLeft_66 : decode cX3_recutsLeft 66 = .ok (.iload 4, 2) := by decide +kernel
theorem dX3_recutsLeft_68 : decode cX3_recutsLeft 68 = .ok (.bipush 20, 2) := by decide +kernel
theorem dX3_recutsLeft_70 : decode cX3_recutsLeft 70 = .ok (.isub, 1) := by decide +kernel
theorem dX3_recutsLeft_71 : decode cX3_recutsLeft 71 = .ok (.iload 6, 2) := by decide +kernel
theorem dX3_recutsLeft_73 : decode cX3_recutsLeft 73 = .ok (.idiv, 1) := by decide +kernel
theorem dX3_recutsLeft_74 : decode cX3_recutsLeft 74 = .ok (.iadd, 1) := by decide +kernel
theorem dX3_recutsLeft_75 : decode cX3_recutsLeft 75 = .ok (.ireturn, 1) := by decide +kernel
theorem dX3_order_0 : decode cX3_order 0 = .ok (.iload_n 1, 1) := by decide +kernel
theorem dX3_order_1 : decode cX3_order 1 = .ok (.invokestatic 32, 3) := by decide +kernel
theorem dX3_order_4 : decode cX3_order 4 = .ok (.iload_n 2, 1) := by decide +kernel
theorem dX3_order_5 : decode cX3_order 5 = .ok (.invokestatic 58, 3) := by decide +kernel
theorem dX3_order_8 : decode cX3_order 8 = .ok (.iload_n 3, 1) := by decide +kernel
theorem dX3_order_9 : decode cX3_order 9 = .ok (.iconst 1, 1) := by decide +kernel
theorem dX3_order_10 : decode cX3_order 10 = .ok (.bipush 8, 2) := by decide +kernel
theorem dX3_order_12 : decode cX3_order 12 = .ok (.invokestatic 36, 3) := by decide +kernel
theorem dX3_order_15 : decode cX3_order 15 = .ok (.aload_n 0, 1) := by decide +kernel
theorem dX3_order_16 : decode cX3_order 16 = .ok (.getfield 197, 3) := by decide +kernel
theorem dX3_order_19 : decode cX3_order 19 = .ok (.bipush 6, 2) := by decide +kernel
theorem dX3_order_21 : decode cX3_order 21 = .ok (.if_icmp .lt 13, 3) := by decide +kernel
theorem dX3_order_24 : decode cX3_order 24 = .ok (.new 44, 3) := by decide +kernel
theorem dX3_order_27 : decode cX3_order 27 = .ok (.dup, 1) := by decide +kernel
theorem dX3_order_28 : decode cX3_order 28 = .ok (.ldc 200, 2) := by decide +kernel
theorem dX3_order_30 : decode cX3_order 30 = .ok (.invokespecial 48, 3) := by decide +kernel
theorem dX3_order_33 : decode cX3_order 33 = .ok (.athrow, 1) := by decide +kernel
theorem dX3_order_34 : decode cX3_order 34 = .ok (.aload_n 0, 1) := by decide +kernel
theorem dX3_order_35 : decode cX3_order 35 = .ok (.getfield 17, 3) := by decide +kernel
theorem dX3_order_38 : decode cX3_order 38 = .ok (.aload_n 0, 1) := by decide +kernel
theorem dX3_order_39 : decode cX3_order 39 = .ok (.getfield 197, 3) := by decide +kernel
theorem dX3_order_42 : decode cX3_order 42 = .ok (.new 15, 3) := by decide +kernel
theorem dX3_order_45 : decode cX3_order 45 = .ok (.dup, 1) := by decide +kernel
theorem dX3_order_46 : decode cX3_order 46 = .ok (.iload_n 1, 1) := by decide +kernel
theorem dX3_order_47 : decode cX3_order 47 = .ok (.iload_n 2, 1) := by decide +kernel
theorem dX3_order_48 : decode cX3_order 48 = .ok (.iload_n 3, 1) := by decide +kernel
theorem dX3_order_49 : decode cX3_order 49 = .ok (.invokespecial 202, 3) := by decide +kernel
theorem dX3_order_52 : decode cX3_order 52 = .ok (.aastore, 1) := by decide +kernel
theorem dX3_order_53 : decode cX3_order 53 = .ok (.aload_n 0, 1) := by decide +kernel
theorem dX3_order_54 : decode cX3_order 54 = .ok (.dup, 1) := by decide +kernel
theorem dX3_order_55 : decode cX3_order 55 = .ok (.getfield 197, 3) := by decide +kernel
theorem dX3_order_58 : decode cX3_order 58 = .ok (.iconst 1, 1) := by decide +kernel
theorem dX3_order_59 : decode cX3_order 59 = .ok (.iadd, 1) := by decide +kernel
theorem dX3_order_60 : decode cX3_order 60 = .ok (.putfield 197, 3) := by decide +kernel
theorem dX3_order_63 : decode cX3_order 63 = .ok (.aload_n 0, 1) := by decide +kernel
theorem dX3_order_64 : decode cX3_order 64 = .ok (.getfield 197, 3) := by decide +kernel
theorem dX3_order_67 : decode cX3_order 67 = .ok (.iconst 1, 1) := by decide +kernel
theorem dX3_order_68 : decode cX3_order 68 = .ok (.isub, 1) := by decide +kernel
theorem dX3_order_69 : decode cX3_order 69 = .ok (.ireturn, 1) := by decide +kernel
theorem dX3_isGood_0 : decode cX3_isGood 0 = .ok (.aload_n 0, 1) := by decide +kernel
theorem dX3_isGood_1 : decode cX3_isGood 1 = .ok (.iload_n 1, 1) := by decide +kernel
theorem dX3_isGood_2 : decode cX3_isGood 2 = .ok (.invokevirtual 54, 3) := by decide +kernel
theorem dX3_isGood_5 : decode cX3_isGood 5 = .ok (.astore_n 3, 1) := by decide +kernel
theorem dX3_isGood_6 : decode cX3_isGood 6 = .ok (.aload_n 0, 1) := by decide +kernel
theorem dX3_isGood_7 : decode cX3_isGood 7 = .ok (.iload_n 2, 1) := by decide +kernel
theorem dX3_isGood_8 : decode cX3_isGood 8 = .ok (.invokevirtual 205, 3) := by decide +kernel
theorem dX3_isGood_11 : decode cX3_isGood 11 = .ok (.aload_n 3, 1) := by decide +kernel
theorem dX3_isGood_12 : decode cX3_isGood 12 = .ok (.invokevirtual 209, 3) := by decide +kernel
theorem dX3_isGood_15 : decode cX3_isGood 15 = .ok (.ireturn, 1) := by decide +kernel
theorem dX3_send_0 : decode cX3_send 0 = .ok (.aload_n 0, 1) := by decide +kernel
theorem dX3_send_1 : decode cX3_send 1 = .ok (.iload_n 1, 1) := by decide +kernel
theorem dX3_send_2 : decode cX3_send 2 = .ok (.invokevirtual 54, 3) := by decide +kernel
theorem dX3_send_5 : decode cX3_send 5 = .ok (.astore_n 3, 1) := by decide +kernel
theorem dX3_send_6 : decode cX3_send 6 = .ok (.aload_n 0, 1) := by decide +kernel
theorem dX3_send_7 : decode cX3_send 7 = .ok (.iload_n 2, 1) := by decide +kernel
theorem dX3_send_8 : decode cX3_send 8 = .ok (.invokevirtual 205, 3) := by decide +kernel
theorem dX3_send_11 : decode cX3_send 11 = .ok (.astore 4, 2) := by decide +kernel
theorem dX3_send_13 : decode cX3_send 13 = .ok (.aload 4, 2) := by decide +kernel
theorem dX3_send_15 : decode cX3_send 15 = .ok (.aload_n 3, 1) := by decide +kernel
theorem dX3_send_16 : decode cX3_send 16 = .ok (.invokevirtual 209, 3) := by decide +kernel
theorem dX3_send_19 : decode cX3_send 19 = .ok (.ifCond .eq 16, 3) := by decide +kernel
theorem dX3_send_22 : decode cX3_send 22 = .ok (.aload 4, 2) := by decide +kernel
theorem dX3_send_24 : decode cX3_send 24 = .ok (.getfield 213, 3) := by decide +kernel
theorem dX3_send_27 : decode cX3_send 27 = .ok (.aload 4, 2) := by decide +kernel
theorem dX3_send_29 : decode cX3_send 29 = .ok (.getfield 216, 3) := by decide +kernel
theorem dX3_send_32 : decode cX3_send 32 = .ok (.if_icmp .lt 13, 3) := by decide +kernel
theorem dX3_send_35 : decode cX3_send 35 = .ok (.new 81, 3) := by decide +kernel
theorem dX3_send_38 : decode cX3_send 38 = .ok (.dup, 1) := by decide +kernel
theorem dX3_send_39 : decode cX3_send 39 = .ok (.ldc 219, 2) := by decide +kernel
theorem dX3_send_41 : decode cX3_send 41 = .ok (.invokespecial 85, 3) := by decide +kernel
theorem dX3_send_44 : decode cX3_send 44 = .ok (.athrow, 1) := by decide +kernel
theorem dX3_send_45 : decode cX3_send 45 = .ok (.aload_n 0, 1) := by decide +kernel
theorem dX3_send_46 : decode cX3_send 46 = .ok (.getfield 11, 3) := by decide +kernel
theorem dX3_send_49 : decode cX3_send 49 = .ok (.iload_n 1, 1) := by decide +kernel
theorem dX3_send_50 : decode cX3_send 50 = .ok (.aconst_null, 1) := by decide +kernel
theorem dX3_send_51 : decode cX3_send 51 = .ok (.aastore, 1) := by decide +kernel
theorem dX3_send_52 : decode cX3_send 52 = .ok (.aload 4, 2) := by decide +kernel
theorem dX3_send_54 : decode cX3_send 54 = .ok (.dup, 1) := by decide +kernel
theorem dX3_send_55 : decode cX3_send 55 = .ok (.getfield 213, 3) := by decide +kernel
theorem dX3_send_58 : decode cX3_send 58 = .ok (.iconst 1, 1) := by decide +kernel
theorem dX3_send_59 : decode cX3_send 59 = .ok (.iadd, 1) := by decide +kernel
theorem dX3_send_60 : decode cX3_send 60 = .ok (.putfield 213, 3) := by decide +kernel
theorem dX3_send_63 : decode cX3_send 63 = .ok (.aload 4, 2) := by decide +kernel
theorem dX3_send_65 : decode cX3_send 65 = .ok (.getfield 213, 3) := by decide +kernel
theorem dX3_send_68 : decode cX3_send 68 = .ok (.ireturn, 1) := by decide +kernel
theorem dX3_sent_0 : decode cX3_sent 0 = .ok (.aload_n 0, 1) := by decide +kernel
theorem dX3_sent_1 : decode cX3_sent 1 = .ok (.iload_n 1, 1) := by decide +kernel
theorem dX3_sent_2 : decode cX3_sent 2 = .ok (.invokevirtual 205, 3) := by decide +kernel
theorem dX3_sent_5 : decode cX3_sent 5 = .ok (.getfield 213, 3) := by decide +kernel
theorem dX3_sent_8 : decode cX3_sent 8 = .ok (.ireturn, 1) := by decide +kernel
theorem dX3_wornShare_0 : decode cX3_wornShare 0 = .ok (.iconst 0, 1) := by decide +kernel
theorem dX3_wornShare_1 : decode cX3_wornShare 1 = .ok (.istore_n 1, 1) := by decide +kernel
theorem dX3_wornShare_2 : decode cX3_wornShare 2 = .ok (.iconst 0, 1) := by decide +kernel
theorem dX3_wornShare_3 : decode cX3_wornShare 3 = .ok (.istore_n 2, 1) := by decide +kernel
theorem dX3_wornShare_4 : decode cX3_wornShare 4 = .ok (.iconst 0, 1) := by decide +kernel
theorem dX3_wornShare_5 : decode cX3_wornShare 5 = .ok (.istore_n 3, 1) := by decide +kernel
theorem dX3_wornShare_6 : decode cX3_wornShare 6 = .ok (.iload_n 3, 1) := by decide +kernel
theorem dX3_wornShare_7 : decode cX3_wornShare 7 = .ok (.bipush 8, 2) := by decide +kernel
theorem dX3_wornShare_9 : decode cX3_wornShare 9 = .ok (.if_icmp .ge 48, 3) := by decide +kernel
theorem dX3_wornShare_12 : decode cX3_wornShare 12 = .ok (.aload_n 0, 1) := by decide +kernel
theorem dX3_wornShare_13 : decode cX3_wornShare 13 = .ok (.getfield 11, 3) := by decide +kernel
theorem dX3_wornShare_16 : decode cX3_wornShare 16 = .ok (.iload_n 3, 1) := by decide +kernel
theorem dX3_wornShare_17 : decode cX3_wornShare 17 = .ok (.aaload, 1) := by decide +kernel
theorem dX3_wornShare_18 : decode cX3_wornShare 18 = .ok (.ifnull 33, 3) := by decide +kernel
theorem dX3_wornShare_21 : decode cX3_wornShare 21 = .ok (.iload_n 1, 1) := by decide +kernel
theorem dX3_wornShare_22 : decode cX3_wornShare 22 = .ok (.aload_n 0, 1) := by decide +kernel
theorem dX3_wornShare_23 : decode cX3_wornShare 23 = .ok (.getfield 11, 3) := by decide +kernel
theorem dX3_wornShare_26 : decode cX3_wornShare 26 = .ok (.iload_n 3, 1) := by decide +kernel
theorem dX3_wornShare_27 : decode cX3_wornShare 27 = .ok (.aaload, 1) := by decide +kernel
theorem dX3_wornShare_28 : decode cX3_wornShare 28 = .ok (.getfield 72, 3) := by decide +kernel
theorem dX3_wornShare_31 : decode cX3_wornShare 31 = .ok (.invokevirtual 221, 3) := by decide +kernel
theorem dX3_wornShare_34 : decode cX3_wornShare 34 = .ok (.iadd, 1) := by decide +kernel
theorem dX3_wornShare_35 : decode cX3_wornShare 35 = .ok (.istore_n 1, 1) := by decide +kernel
theorem dX3_wornShare_36 : decode cX3_wornShare 36 = .ok (.iload_n 2, 1) := by decide +kernel
theorem dX3_wornShare_37 : decode cX3_wornShare 37 = .ok (.aload_n 0, 1) := by decide +kernel
theorem dX3_wornShare_38 : decode cX3_wornShare 38 = .ok (.getfield 11, 3) := by decide +kernel
theorem dX3_wornShare_41 : decode cX3_wornShare 41 = .ok (.iload_n 3, 1) := by decide +kernel
theorem dX3_wornShare_42 : decode cX3_wornShare 42 = .ok (.aaload, 1) := by decide +kernel
theorem dX3_wornShare_43 : decode cX3_wornShare 43 = .ok (.getfield 72, 3) := by decide +kernel
theorem dX3_wornShare_46 : decode cX3_wornShare 46 = .ok (.getfield 75, 3) := by decide +kernel
theorem dX3_wornShare_49 : decode cX3_wornShare 49 = .ok (.iadd, 1) := by decide +kernel
theorem dX3_wornShare_50 : decode cX3_wornShare 50 = .ok (.istore_n 2, 1) := by decide +kernel
theorem dX3_wornShare_51 : decode cX3_wornShare 51 = .ok (.iinc 3 1, 3) := by decide +kernel
theorem dX3_wornShare_54 : decode cX3_wornShare 54 = .ok (.goto (-48), 3) := by decide +kernel
theorem dX3_wornShare_57 : decode cX3_wornShare 57 = .ok (.iload_n 2, 1) := by decide +kernel
theorem dX3_wornShare_58 : decode cX3_wornShare 58 = .ok (.ifCond .ne 13, 3) := by decide +kernel
theorem dX3_wornShare_61 : decode cX3_wornShare 61 = .ok (.new 224, 3) := by decide +kernel
theorem dX3_wornShare_64 : decode cX3_wornShare 64 = .ok (.dup, 1) := by decide +kernel
theorem dX3_wornShare_65 : decode cX3_wornShare 65 = .ok (.ldc 226, 2) := by decide +kernel
theorem dX3_wornShare_67 : decode cX3_wornShare 67 = .ok (.invokespecial 228, 3) := by decide +kernel
theorem dX3_wornShare_70 : decode cX3_wornShare 70 = .ok (.athrow, 1) := by decide +kernel
theorem dX3_wornShare_71 : decode cX3_wornShare 71 = .ok (.iload_n 1, 1) := by decide +kernel
theorem dX3_wornShare_72 : decode cX3_wornShare 72 = .ok (.i2f, 1) := by decide +kernel
theorem dX3_wornShare_73 : decode cX3_wornShare 73 = .ok (.iload_n 2, 1) := by decide +kernel
theorem dX3_wornShare_74 : decode cX3_wornShare 74 = .ok (.i2f, 1) := by decide +kernel
theorem dX3_wornShare_75 : decode cX3_wornShare 75 = .ok (.fdiv, 1) := by decide +kernel
theorem dX3_wornShare_76 : decode cX3_wornShare 76 = .ok (.freturn, 1) := by decide +kernel
theorem dX3_meanHardness_0 : decode cX3_meanHardness 0 = .ok (.iconst 0, 1) := by decide +kernel
theorem dX3_meanHardness_1 : decode cX3_meanHardness 1 = .ok (.istore_n 1, 1) := by decide +kernel
theorem dX3_meanHardness_2 : decode cX3_meanHardness 2 = .ok (.iconst 0, 1) := by decide +kernel
theorem dX3_meanHardness_3 : decode cX3_meanHardness 3 = .ok (.istore_n 2, 1) := by decide +kernel
theorem dX3_meanHardness_4 : decode cX3_meanHardness 4 = .ok (.iconst 0, 1) := by decide +kernel
theorem dX3_meanHardness_5 : decode cX3_meanHardness 5 = .ok (.istore_n 3, 1) := by decide +kernel
theorem dX3_meanHardness_6 : decode cX3_meanHardness 6 = .ok (.iload_n 3, 1) := by decide +kernel
theorem dX3_meanHardness_7 : decode cX3_meanHardness 7 = .ok (.bipush 8, 2) := by decide +kernel
theorem dX3_meanHardness_9 : decode cX3_meanHardness 9 = .ok (.if_icmp .ge 47, 3) := by decide +kernel
theorem dX3_meanHardness_12 : decode cX3_meanHardness 12 = .ok (.aload_n 0, 1) := by decide +kernel
theorem dX3_meanHardness_13 : decode cX3_meanHardness 13 = .ok (.getfield 11, 3) := by decide +kernel
theorem dX3_meanHardness_16 : decode cX3_meanHardness 16 = .ok (.iload_n 3, 1) := by decide +kernel
theorem dX3_meanHardness_17 : decode cX3_meanHardness 17 = .ok (.aaload, 1) := by decide +kernel
theorem dX3_meanHardness_18 : decode cX3_meanHardness 18 = .ok (.ifnull 32, 3) := by decide +kernel
theorem dX3_meanHardness_21 : decode cX3_meanHardness 21 = .ok (.aload_n 0, 1) := by decide +kernel
theorem dX3_meanHardness_22 : decode cX3_meanHardness 22 = .ok (.getfield 11, 3) := by decide +kernel
theorem dX3_meanHardness_25 : decode cX3_meanHardness 25 = .ok (.iload_n 3, 1) := by decide +kernel
theorem dX3_meanHardness_26 : decode cX3_meanHardness 26 = .ok (.aaload, 1) := by decide +kernel
theorem dX3_meanHardness_27 : decode cX3_meanHardness 27 = .ok (.getfield 69, 3) := by decide +kernel
theorem dX3_meanHardness_30 : decode cX3_meanHardness 30 = .ok (.bipush 104, 2) := by decide +kernel
theorem dX3_meanHardness_32 : decode cX3_meanHardness 32 = .ok (.if_icmp .ne 18, 3) := by decide +kernel
theorem dX3_meanHardness_35 : decode cX3_meanHardness 35 = .ok (.iload_n 1, 1) := by decide +kernel
theorem dX3_meanHardness_36 : decode cX3_meanHardness 36 = .ok (.aload_n 0, 1) := by decide +kernel
theorem dX3_meanHardness_37 : decode cX3_meanHardness 37 = .ok (.getfield 11, 3) := by decide +kernel
theorem dX3_meanHardness_40 : decode cX3_meanHardness 40 = .ok (.iload_n 3, 1) := by decide +kernel
theorem dX3_meanHardness_41 : decode cX3_meanHardness 41 = .ok (.aaload, 1) := by decide +kernel
theorem dX3_meanHardness_42 : decode cX3_meanHardness 42 = .ok (.getfield 155, 3) := by decide +kernel
theorem dX3_meanHardness_45 : decode cX3_meanHardness 45 = .ok (.iadd, 1) := by decide +kernel
theorem dX3_meanHardness_46 : decode cX3_meanHardness 46 = .ok (.istore_n 1, 1) := by decide +kernel
theorem dX3_meanHardness_47 : decode cX3_meanHardness 47 = .ok (.iinc 2 1, 3) := by decide +kernel
theorem dX3_meanHardness_50 : decode cX3_meanHardness 50 = .ok (.iinc 3 1, 3) := by decide +kernel
theorem dX3_meanHardness_53 : decode cX3_meanHardness 53 = .ok (.goto (-47), 3) := by decide +kernel
theorem dX3_meanHardness_56 : decode cX3_meanHardness 56 = .ok (.iload_n 2, 1) := by decide +kernel
theorem dX3_meanHardness_57 : decode cX3_meanHardness 57 = .ok (.ifCond .ne 13, 3) := by decide +kernel
theorem dX3_meanHardness_60 : decode cX3_meanHardness 60 = .ok (.new 224, 3) := by decide +kernel
theorem dX3_meanHardness_63 : decode cX3_meanHardness 63 = .ok (.dup, 1) := by decide +kernel
theorem dX3_meanHardness_64 : decode cX3_meanHardness 64 = .ok (.ldc 229, 2) := by decide +kernel
theorem dX3_meanHardness_66 : decode cX3_meanHardness 66 = .ok (.invokespecial 228, 3) := by decide +kernel
theorem dX3_meanHardness_69 : decode cX3_meanHardness 69 = .ok (.athrow, 1) := by decide +kernel
theorem dX3_meanHardness_70 : decode cX3_meanHardness 70 = .ok (.iload_n 1, 1) := by decide +kernel
theorem dX3_meanHardness_71 : decode cX3_meanHardness 71 = .ok (.i2d, 1) := by decide +kernel
theorem dX3_meanHardness_72 : decode cX3_meanHardness 72 = .ok (.iload_n 2, 1) := by decide +kernel
theorem dX3_meanHardness_73 : decode cX3_meanHardness 73 = .ok (.i2d, 1) := by decide +kernel
theorem dX3_meanHardness_74 : decode cX3_meanHardness 74 = .ok (.ddiv, 1) := by decide +kernel
theorem dX3_meanHardness_75 : decode cX3_meanHardness 75 = .ok (.dreturn, 1) := by decide +kernel
theorem dX3_checksum_0 : decode cX3_checksum 0 = .ok (.ldc2_w 231, 3) := by decide +kernel
theorem dX3_checksum_3 : decode cX3_checksum 3 = .ok (.lstore_n 1, 1) := by decide +kernel
theorem dX3_checksum_4 : decode cX3_checksum 4 = .ok (.iconst 0, 1) := by decide +kernel
theorem dX3_checksum_5 : decode cX3_checksum 5 = .ok (.istore_n 3, 1) := by decide +kernel
theorem dX3_checksum_6 : decode cX3_checksum 6 = .ok (.iload_n 3, 1) := by decide +kernel
theorem dX3_checksum_7 : decode cX3_checksum 7 = .ok (.bipush 8, 2) := by decide +kernel
theorem dX3_checksum_9 : decode cX3_checksum 9 = .ok (.if_icmp .ge 29, 3) := by decide +kernel
theorem dX3_checksum_12 : decode cX3_checksum 12 = .ok (.aload_n 0, 1) := by decide +kernel
theorem dX3_checksum_13 : decode cX3_checksum 13 = .ok (.getfield 11, 3) := by decide +kernel
theorem dX3_checksum_16 : decode cX3_checksum 16 = .ok (.iload_n 3, 1) := by decide +kernel
theorem dX3_checksum_17 : decode cX3_checksum 17 = .ok (.aaload, 1) := by decide +kernel
theorem dX3_checksum_18 : decode cX3_checksum 18 = .ok (.ifnull 14, 3) := by decide +kernel
theorem dX3_checksum_21 : decode cX3_checksum 21 = .ok (.aload_n 0, 1) := by decide +kernel
theorem dX3_checksum_22 : decode cX3_checksum 22 = .ok (.getfield 11, 3) := by decide +kernel
theorem dX3_checksum_25 : decode cX3_checksum 25 = .ok (.iload_n 3, 1) := by decide +kernel
theorem dX3_checksum_26 : decode cX3_checksum 26 = .ok (.aaload, 1) := by decide +kernel
theorem dX3_checksum_27 : decode cX3_checksum 27 = .ok (.lload_n 1, 1) := by decide +kernel
theorem dX3_checksum_28 : decode cX3_checksum 28 = .ok (.invokevirtual 233, 3) := by decide +kernel
theorem dX3_checksum_31 : decode cX3_checksum 31 = .ok (.lstore_n 1, 1) := by decide +kernel
theorem dX3_checksum_32 : decode cX3_checksum 32 = .ok (.iinc 3 1, 3) := by decide +kernel
theorem dX3_checksum_35 : decode cX3_checksum 35 = .ok (.goto (-29), 3) := by decide +kernel
theorem dX3_checksum_38 : decode cX3_checksum 38 = .ok (.ldc2_w 237, 3) := by decide +kernel
theorem dX3_checksum_41 : decode cX3_checksum 41 = .ok (.lload_n 1, 1) := by decide +kernel
theorem dX3_checksum_42 : decode cX3_checksum 42 = .ok (.lmul, 1) := by decide +kernel
theorem dX3_checksum_43 : decode cX3_checksum 43 = .ok (.aload_n 0, 1) := by decide +kernel
theorem dX3_checksum_44 : decode cX3_checksum 44 = .ok (.getfield 21, 3) := by decide +kernel
theorem dX3_checksum_47 : decode cX3_checksum 47 = .ok (.ladd, 1) := by decide +kernel
theorem dX3_checksum_48 : decode cX3_checksum 48 = .ok (.lreturn, 1) := by decide +kernel
theorem dX3_isSound_0 : decode cX3_isSound 0 = .ok (.iconst 0, 1) := by decide +kernel
theorem dX3_isSound_1 : decode cX3_isSound 1 = .ok (.istore_n 1, 1) := by decide +kernel
theorem dX3_isSound_2 : decode cX3_isSound 2 = .ok (.iload_n 1, 1) := by decide +kernel
theorem dX3_isSound_3 : decode cX3_isSound 3 = .ok (.bipush 8, 2) := by decide +kernel
theorem dX3_isSound_5 : decode cX3_isSound 5 = .ok (.if_icmp .ge 33, 3) := by decide +kernel
theorem dX3_isSound_8 : decode cX3_isSound 8 = .ok (.aload_n 0, 1) := by decide +kernel
theorem dX3_isSound_9 : decode cX3_isSound 9 = .ok (.getfield 11, 3) := by decide +kernel
theorem dX3_isSound_12 : decode cX3_isSound 12 = .ok (.iload_n 1, 1) := by decide +kernel
theorem dX3_isSound_13 : decode cX3_isSound 13 = .ok (.aaload, 1) := by decide +kernel
theorem dX3_isSound_14 : decode cX3_isSound 14 = .ok (.ifnull 18, 3) := by decide +kernel
theorem dX3_isSound_17 : decode cX3_isSound 17 = .ok (.aload_n 0, 1) := by decide +kernel
theorem dX3_isSound_18 : decode cX3_isSound 18 = .ok (.aload_n 0, 1) := by decide +kernel
theorem dX3_isSound_19 : decode cX3_isSound 19 = .ok (.getfield 11, 3) := by decide +kernel
theorem dX3_isSound_22 : decode cX3_isSound 22 = .ok (.iload_n 1, 1) := by decide +kernel
theorem dX3_isSound_23 : decode cX3_isSound 23 = .ok (.aaload, 1) := by decide +kernel
theorem dX3_isSound_24 : decode cX3_isSound 24 = .ok (.invokevirtual 239, 3) := by decide +kernel
theorem dX3_isSound_27 : decode cX3_isSound 27 = .ok (.ifCond .ne 5, 3) := by decide +kernel
theorem dX3_isSound_30 : decode cX3_isSound 30 = .ok (.iconst 0, 1) := by decide +kernel
theorem dX3_isSound_31 : decode cX3_isSound 31 = .ok (.ireturn, 1) := by decide +kernel
theorem dX3_isSound_32 : decode cX3_isSound 32 = .ok (.iinc 1 1, 3) := by decide +kernel
theorem dX3_isSound_35 : decode cX3_isSound 35 = .ok (.goto (-33), 3) := by decide +kernel
theorem dX3_isSound_38 : decode cX3_isSound 38 = .ok (.iconst 1, 1) := by decide +kernel
theorem dX3_isSound_39 : decode cX3_isSound 39 = .ok (.ireturn, 1) := by decide +kernel
theorem dX3_isSoundTool_0 : decode cX3_isSoundTool 0 = .ok (.aload_n 1, 1) := by decide +kernel
theorem dX3_isSoundTool_1 : decode cX3_isSoundTool 1 = .ok (.getfield 72, 3) := by decide +kernel
theorem dX3_isSoundTool_4 : decode cX3_isSoundTool 4 = .ok (.aload_n 1, 1) := by decide +kernel
theorem dX3_isSoundTool_5 : decode cX3_isSoundTool 5 = .ok (.getfield 86, 3) := by decide +kernel
theorem dX3_isSoundTool_8 : decode cX3_isSoundTool 8 = .ok (.invokevirtual 242, 3) := by decide +kernel
theorem dX3_isSoundTool_11 : decode cX3_isSoundTool 11 = .ok (.ifCond .eq 57, 3) := by decide +kernel
theorem dX3_isSoundTool_14 : decode cX3_isSoundTool 14 = .ok (.aload_n 1, 1) := by decide +kernel
theorem dX3_isSoundTool_15 : decode cX3_isSoundTool 15 = .ok (.getfield 72, 3) := by decide +kernel
theorem dX3_isSoundTool_18 : decode cX3_isSoundTool 18 = .ok (.invokevirtual 101, 3) := by decide +kernel
theorem dX3_isSoundTool_21 : decode cX3_isSoundTool 21 = .ok (.aload_n 1, 1) := by decide +kernel
theorem dX3_isSoundTool_22 : decode cX3_isSoundTool 22 = .ok (.getfield 72, 3) := by decide +kernel
theorem dX3_isSoundTool_25 : decode cX3_isSoundTool 25 = .ok (.getfield 246, 3) := by decide +kernel
theorem dX3_isSoundTool_28 : decode cX3_isSoundTool 28 = .ok (.if_icmp .gt 40, 3) := by decide +kernel
theorem dX3_isSoundTool_31 : decode cX3_isSoundTool 31 = .ok (.aload_n 1, 1) := by decide +kernel
theorem dX3_isSoundTool_32 : decode cX3_isSoundTool 32 = .ok (.getfield 180, 3) := by decide +kernel
theorem dX3_isSoundTool_35 : decode cX3_isSoundTool 35 = .ok (.aload_n 1, 1) := by decide +kernel
theorem dX3_isSoundTool_36 : decode cX3_isSoundTool 36 = .ok (.invokevirtual 131, 3) := by decide +kernel
theorem dX3_isSoundTool_39 : decode cX3_isSoundTool 39 = .ok (.aload_n 1, 1) := by decide +kernel
theorem dX3_isSoundTool_40 : decode cX3_isSoundTool 40 = .ok (.invokevirtual 249, 3) := by decide +kernel
theorem dX3_isSoundTool_43 : decode cX3_isSoundTool 43 = .ok (.iadd, 1) := by decide +kernel
theorem dX3_isSoundTool_44 : decode cX3_isSoundTool 44 = .ok (.if_icmp .gt 24, 3) := by decide +kernel
theorem dX3_isSoundTool_47 : decode cX3_isSoundTool 47 = .ok (.aload_n 1, 1) := by decide +kernel
theorem dX3_isSoundTool_48 : decode cX3_isSoundTool 48 = .ok (.getfield 69, 3) := by decide +kernel
theorem dX3_isSoundTool_51 : decode cX3_isSoundTool 51 = .ok (.bipush 104, 2) := by decide +kernel
theorem dX3_isSoundTool_53 : decode cX3_isSoundTool 53 = .ok (.if_icmp .ne 11, 3) := by decide +kernel
theorem dX3_isSoundTool_56 : decode cX3_isSoundTool 56 = .ok (.aload_n 0, 1) := by decide +kernel
theorem dX3_isSoundTool_57 : decode cX3_isSoundTool 57 = .ok (.aload_n 1, 1) := by decide +kernel
theorem dX3_isSoundTool_58 : decode cX3_isSoundTool 58 = .ok (.invokevirtual 252, 3) := by decide +kernel
theorem dX3_isSoundTool_61 : decode cX3_isSoundTool 61 = .ok (.ifCond .eq 7, 3) := by decide +kernel
theorem dX3_isSoundTool_64 : decode cX3_isSoundTool 64 = .ok (.iconst 1, 1) := by decide +kernel
theorem dX3_isSoundTool_65 : decode cX3_isSoundTool 65 = .ok (.goto 4, 3) := by decide +kernel
theorem dX3_isSoundTool_68 : decode cX3_isSoundTool 68 = .ok (.iconst 0, 1) := by decide +kernel
theorem dX3_isSoundTool_69 : decode cX3_isSoundTool 69 = .ok (.ireturn, 1) := by decide +kernel
theorem dX3_strokesOnCopyAsDue_0 : decode cX3_strokesOnCopyAsDue 0 = .ok (.aload_n 1, 1) := by decide +kernel
theorem dX3_strokesOnCopyAsDue_1 : decode cX3_strokesOnCopyAsDue 1 = .ok (.invokevirtual 131, 3) := by decide +kernel
theorem dX3_strokesOnCopyAsDue_4 : decode cX3_strokesOnCopyAsDue 4 = .ok (.aload_n 1, 1) := by decide +kernel
theorem dX3_strokesOnCopyAsDue_5 : decode cX3_strokesOnCopyAsDue 5 = .ok (.getfield 180, 3) := by decide +kernel
theorem dX3_strokesOnCopyAsDue_8 : decode cX3_strokesOnCopyAsDue 8 = .ok (.isub, 1) := by decide +kernel
theorem dX3_strokesOnCopyAsDue_9 : decode cX3_strokesOnCopyAsDue 9 = .ok (.istore_n 2, 1) := by decide +kernel
theorem dX3_strokesOnCopyAsDue_10 : decode cX3_strokesOnCopyAsDue 10 = .ok (.aload_n 0, 1) := by decide +kernel
theorem dX3_strokesOnCopyAsDue_11 : decode cX3_strokesOnCopyAsDue 11 = .ok (.getfield 28, 3) := by decide +kernel
theorem dX3_strokesOnCopyAsDue_14 : decode cX3_strokesOnCopyAsDue 14 = .ok (.aload_n 1, 1) := by decide +kernel
theorem dX3_strokesOnCopyAsDue_15 : decode cX3_strokesOnCopyAsDue 15 = .ok (.getfield 72, 3) := by decide +kernel
theorem dX3_strokesOnCopyAsDue_18 : decode cX3_strokesOnCopyAsDue 18 = .ok (.invokevirtual 255, 3) := by decide +kernel
theorem dX3_strokesOnCopyAsDue_21 : decode cX3_strokesOnCopyAsDue 21 = .ok (.aload_n 0, 1) := by decide +kernel
theorem dX3_strokesOnCopyAsDue_22 : decode cX3_strokesOnCopyAsDue 22 = .ok (.getfield 28, 3) := by decide +kernel
theorem dX3_strokesOnCopyAsDue_25 : decode cX3_strokesOnCopyAsDue 25 = .ok (.aload_n 1, 1) := by decide +kernel
theorem dX3_strokesOnCopyAsDue_26 : decode cX3_strokesOnCopyAsDue 26 = .ok (.getfield 155, 3) := by decide +kernel
theorem dX3_strokesOnCopyAsDue_29 : decode cX3_strokesOnCopyAsDue 29 = .ok (.iconst 1, 1) := by decide +kernel
theorem dX3_strokesOnCopyAsDue_30 : decode cX3_strokesOnCopyAsDue 30 = .ok (.iload_n 2, 1) := by decide +kernel
theorem dX3_strokesOnCopyAsDue_31 : decode cX3_strokesOnCopyAsDue 31 = .ok (.invokevirtual 259, 3) := by decide +kernel
theorem dX3_strokesOnCopyAsDue_34 : decode cX3_strokesOnCopyAsDue 34 = .ok (.istore_n 3, 1) := by decide +kernel
theorem dX3_strokesOnCopyAsDue_35 : decode cX3_strokesOnCopyAsDue 35 = .ok (.iload_n 3, 1) := by decide +kernel
theorem dX3_strokesOnCopyAsDue_36 : decode cX3_strokesOnCopyAsDue 36 = .ok (.aload_n 1, 1) := by decide +kernel
theorem dX3_strokesOnCopyAsDue_37 : decode cX3_strokesOnCopyAsDue 37 = .ok (.getfield 72, 3) := by decide +kernel
theorem dX3_strokesOnCopyAsDue_40 : decode cX3_strokesOnCopyAsDue 40 = .ok (.aload_n 1, 1) := by decide +kernel
theorem dX3_strokesOnCopyAsDue_41 : decode cX3_strokesOnCopyAsDue 41 = .ok (.getfield 155, 3) := by decide +kernel
theorem dX3_strokesOnCopyAsDue_44 : decode cX3_strokesOnCopyAsDue 44 = .ok (.iconst 1, 1) := by decide +kernel
theorem dX3_strokesOnCopyAsDue_45 : decode cX3_strokesOnCopyAsDue 45 = .ok (.invokestatic 263, 3) := by decide +kernel
theorem dX3_strokesOnCopyAsDue_48 : decode cX3_strokesOnCopyAsDue 48 = .ok (.iload_n 2, 1) := by decide +kernel
theorem dX3_strokesOnCopyAsDue_49 : decode cX3_strokesOnCopyAsDue 49 = .ok (.invokevirtual 266, 3) := by decide +kernel
theorem dX3_strokesOnCopyAsDue_52 : decode cX3_strokesOnCopyAsDue 52 = .ok (.if_icmp .ne 7, 3) := by decide +kernel
theorem dX3_strokesOnCopyAsDue_55 : decode cX3_strokesOnCopyAsDue 55 = .ok (.iconst 1, 1) := by decide +kernel
theorem dX3_strokesOnCopyAsDue_56 : decode cX3_strokesOnCopyAsDue 56 = .ok (.goto 4, 3) := by decide +kernel
theorem dX3_strokesOnCopyAsDue_59 : decode cX3_strokesOnCopyAsDue 59 = .ok (.iconst 0, 1) := by decide +kernel
theorem dX3_strokesOnCopyAsDue_60 : decode cX3_strokesOnCopyAsDue 60 = .ok (.ireturn, 1) := by decide +kernel
theorem dX3_needTool_0 : decode cX3_needTool 0 = .ok (.iload_n 1, 1) := by decide +kernel
theorem dX3_needTool_1 : decode cX3_needTool 1 = .ok (.ifCond .lt 18, 3) := by decide +kernel
theorem dX3_needTool_4 : decode cX3_needTool 4 = .ok (.iload_n 1, 1) := by decide +kernel
theorem dX3_needTool_5 : decode cX3_needTool 5 = .ok (.bipush 8, 2) := by decide +kernel
theorem dX3_needTool_7 : decode cX3_needTool 7 = .ok (.if_icmp .ge 12, 3) := by decide +kernel
theorem dX3_needTool_10 : decode cX3_needTool 10 = .ok (.aload_n 0, 1) := by decide +kernel
theorem dX3_needTool_11 : decode cX3_needTool 11 = .ok (.getfield 11, 3) := by decide +kernel
theorem dX3_needTool_14 : decode cX3_needTool 14 = .ok (.iload_n 1, 1) := by decide +kernel
theorem dX3_needTool_15 : decode cX3_needTool 15 = .ok (.aaload, 1) := by decide +kernel
theorem dX3_needTool_16 : decode cX3_needTool 16 = .ok (.ifnonnull 14, 3) := by decide +kernel
theorem dX3_needTool_19 : decode cX3_needTool 19 = .ok (.new 269, 3) := by decide +kernel
theorem dX3_needTool_22 : decode cX3_needTool 22 = .ok (.dup, 1) := by decide +kernel
theorem dX3_needTool_23 : decode cX3_needTool 23 = .ok (.ldc_w 271, 3) := by decide +kernel
theorem dX3_needTool_26 : decode cX3_needTool 26 = .ok (.invokespecial 273, 3) := by decide +kernel
theorem dX3_needTool_29 : decode cX3_needTool 29 = .ok (.athrow, 1) := by decide +kernel
theorem dX3_needTool_30 : decode cX3_needTool 30 = .ok (.aload_n 0, 1) := by decide +kernel
theorem dX3_needTool_31 : decode cX3_needTool 31 = .ok (.getfield 11, 3) := by decide +kernel
theorem dX3_needTool_34 : decode cX3_needTool 34 = .ok (.iload_n 1, 1) := by decide +kernel
theorem dX3_needTool_35 : decode cX3_needTool 35 = .ok (.aaload, 1) := by decide +kernel
theorem dX3_needTool_36 : decode cX3_needTool 36 = .ok (.areturn, 1) := by decide +kernel
theorem dX3_needOrder_0 : decode cX3_needOrder 0 = .ok (.iload_n 1, 1) := by decide +kernel
theorem dX3_needOrder_1 : decode cX3_needOrder 1 = .ok (.ifCond .lt 18, 3) := by decide +kernel
theorem dX3_needOrder_4 : decode cX3_needOrder 4 = .ok (.iload_n 1, 1) := by decide +kernel
theorem dX3_needOrder_5 : decode cX3_needOrder 5 = .ok (.bipush 6, 2) := by decide +kernel
theorem dX3_needOrder_7 : decode cX3_needOrder 7 = .ok (.if_icmp .ge 12, 3) := by decide +kernel
theorem dX3_needOrder_10 : decode cX3_needOrder 10 = .ok (.aload_n 0, 1) := by decide +kernel
theorem dX3_needOrder_11 : decode cX3_needOrder 11 = .ok (.getfield 17, 3) := by decide +kernel
theorem dX3_needOrder_14 : decode cX3_needOrder 14 = .ok (.iload_n 1, 1) := by decide +kernel
theorem dX3_needOrder_15 : decode cX3_needOrder 15 = .ok (.aaload, 1) := by decide +kernel
theorem dX3_needOrder_16 : decode cX3_needOrder 16 = .ok (.ifnonnull 14, 3) := by decide +kernel
theorem dX3_needOrder_19 : decode cX3_needOrder 19 = .ok (.new 269, 3) := by decide +kernel
theorem dX3_needOrder_22 : decode cX3_needOrder 22 = .ok (.dup, 1) := by decide +kernel
theorem dX3_needOrder_23 : decode cX3_needOrder 23 = .ok (.ldc_w 274, 3) := by decide +kernel
theorem dX3_needOrder_26 : decode cX3_needOrder 26 = .ok (.invokespecial 273, 3) := by decide +kernel
theorem dX3_needOrder_29 : decode cX3_needOrder 29 = .ok (.athrow, 1) := by decide +kernel
theorem dX3_needOrder_30 : decode cX3_needOrder 30 = .ok (.aload_n 0, 1) := by decide +kernel
theorem dX3_needOrder_31 : decode cX3_needOrder 31 = .ok (.getfield 17, 3) := by decide +kernel
theorem dX3_needOrder_34 : decode cX3_needOrder 34 = .ok (.iload_n 1, 1) := by decide +kernel
theorem dX3_needOrder_35 : decode cX3_needOrder 35 = .ok (.aaload, 1) := by decide +kernel
theorem dX3_needOrder_36 : decode cX3_needOrder 36 = .ok (.areturn, 1) := by decide +kernel
theorem dX3_needTooth_0 : decode cX3_needTooth 0 = .ok (.iload_n 1, 1) := by decide +kernel
theorem dX3_needTooth_1 : decode cX3_needTooth 1 = .ok (.ifCond .lt 11, 3) := by decide +kernel
theorem dX3_needTooth_4 : decode cX3_needTooth 4 = .ok (.iload_n 1, 1) := by decide +kernel
theorem dX3_needTooth_5 : decode cX3_needTooth 5 = .ok (.aload_n 0, 1) := by decide +kernel
theorem dX3_needTooth_6 : decode cX3_needTooth 6 = .ok (.getfield 75, 3) := by decide +kernel
theorem dX3_needTooth_9 : decode cX3_needTooth 9 = .ok (.if_icmp .lt 14, 3) := by decide +kernel
theorem dX3_needTooth_12 : decode cX3_needTooth 12 = .ok (.new 276, 3) := by decide +kernel
theorem dX3_needTooth_15 : decode cX3_needTooth 15 = .ok (.dup, 1) := by decide +kernel
theorem dX3_needTooth_16 : decode cX3_needTooth 16 = .ok (.ldc_w 278, 3) := by decide +kernel
theorem dX3_needTooth_19 : decode cX3_needTooth 19 = .ok (.invokespecial 280, 3) := by decide +kernel
theorem dX3_needTooth_22 : decode cX3_needTooth 22 = .ok (.athrow, 1) := by decide +kernel
theorem dX3_needTooth_23 : decode cX3_needTooth 23 = .ok (.return_, 1) := by decide +kernel
theorem dX3_needHard_0 : decode cX3_needHard 0 = .ok (.aload_n 0, 1) := by decide +kernel
theorem dX3_needHard_1 : decode cX3_needHard 1 = .ok (.getfield 69, 3) := by decide +kernel
theorem dX3_needHard_4 : decode cX3_needHard 4 = .ok (.bipush 104, 2) := by decide +kernel
theorem dX3_needHard_6 : decode cX3_needHard 6 = .ok (.if_icmp .eq 14, 3) := by decide +kernel
theorem dX3_needHard_9 : decode cX3_needHard 9 = .ok (.new 81, 3) := by decide +kernel
theorem dX3_needHard_12 : decode cX3_needHard 12 = .ok (.dup, 1) := by decide +kernel
theorem dX3_needHard_13 : decode cX3_needHard 13 = .ok (.ldc_w 281, 3) := by decide +kernel
theorem dX3_needHard_16 : decode cX3_needHard 16 = .ok (.invokespecial 85, 3) := by decide +kernel
theorem dX3_needHard_19 : decode cX3_needHard 19 = .ok (.athrow, 1) := by decide +kernel
theorem dX3_needHard_20 : decode cX3_needHard 20 = .ok (.return_, 1) := by decide +kernel
theorem dX3_needShape_0 : decode cX3_needShape 0 = .ok (.iload_n 0, 1) := by decide +kernel
theorem dX3_needShape_1 : decode cX3_needShape 1 = .ok (.bipush 102, 2) := by decide +kernel
theorem dX3_needShape_3 : decode cX3_needShape 3 = .ok (.if_icmp .eq 26, 3) := by decide +kernel
theorem dX3_needShape_6 : decode cX3_needShape 6 = .ok (.iload_n 0, 1) := by decide +kernel
theorem dX3_needShape_7 : decode cX3_needShape 7 = .ok (.bipush 104, 2) := by decide +kernel
theorem dX3_needShape_9 : decode cX3_needShape 9 = .ok (.if_icmp .eq 20, 3) := by decide +kernel
theorem dX3_needShape_12 : decode cX3_needShape 12 = .ok (.iload_n 0, 1) := by decide +kernel
theorem dX3_needShape_13 : decode cX3_needShape 13 = .ok (.bipush 115, 2) := by decide +kernel
theorem dX3_needShape_15 : decode cX3_needShape 15 = .ok (.if_icmp .eq 14, 3) := by decide +kernel
theorem dX3_needShape_18 : decode cX3_needShape 18 = .ok (.new 283, 3) := by decide +kernel
theorem dX3_needShape_21 : decode cX3_needShape 21 = .ok (.dup, 1) := by decide +kernel
theorem dX3_needShape_22 : decode cX3_needShape 22 = .ok (.ldc_w 285, 3) := by decide +kernel
theorem dX3_needShape_25 : decode cX3_needShape 25 = .ok (.invokespecial 287, 3) := by decide +kernel
theorem dX3_needShape_28 : decode cX3_needShape 28 = .ok (.athrow, 1) := by decide +kernel
theorem dX3_needShape_29 : decode cX3_needShape 29 = .ok (.return_, 1) := by decide +kernel
theorem dX3_needCut_0 : decode cX3_needCut 0 = .ok (.iload_n 0, 1) := by decide +kernel
theorem dX3_needCut_1 : decode cX3_needCut 1 = .ok (.bipush 98, 2) := by decide +kernel
theorem dX3_needCut_3 : decode cX3_needCut 3 = .ok (.if_icmp .eq 26, 3) := by decide +kernel
theorem dX3_needCut_6 : decode cX3_needCut 6 = .ok (.iload_n 0, 1) := by decide +kernel
theorem dX3_needCut_7 : decode cX3_needCut 7 = .ok (.bipush 115, 2) := by decide +kernel
theorem dX3_needCut_9 : decode cX3_needCut 9 = .ok (.if_icmp .eq 20, 3) := by decide +kernel
theorem dX3_needCut_12 : decode cX3_needCut 12 = .ok (.iload_n 0, 1) := by decide +kernel
theorem dX3_needCut_13 : decode cX3_needCut 13 = .ok (.bipush 109, 2) := by decide +kernel
theorem dX3_needCut_15 : decode cX3_needCut 15 = .ok (.if_icmp .eq 14, 3) := by decide +kernel
theorem dX3_needCut_18 : decode cX3_needCut 18 = .ok (.new 283, 3) := by decide +kernel
theorem dX3_needCut_21 : decode cX3_needCut 21 = .ok (.dup, 1) := by decide +kernel
theorem dX3_needCut_22 : decode cX3_needCut 22 = .ok (.ldc_w 288, 3) := by decide +kernel
theorem dX3_needCut_25 : decode cX3_needCut 25 = .ok (.invokespecial 287, 3) := by decide +kernel
theorem dX3_needCut_28 : decode cX3_needCut 28 = .ok (.athrow, 1) := by decide +kernel
theorem dX3_needCut_29 : decode cX3_needCut 29 = .ok (.return_, 1) := by decide +kernel
theorem dX3_needBath_0 : decode cX3_needBath 0 = .ok (.iload_n 0, 1) := by decide +kernel
theorem dX3_needBath_1 : decode cX3_needBath 1 = .ok (.bipush 111, 2) := by decide +kernel
theorem dX3_needBath_3 : decode cX3_needBath 3 = .ok (.if_icmp .eq 26, 3) := by decide +kernel
theorem dX3_needBath_6 : decode cX3_needBath 6 = .ok (.iload_n 0, 1) := by decide +kernel
theorem dX3_needBath_7 : decode cX3_needBath 7 = .ok (.bipush 119, 2) := by decide +kernel
theorem dX3_needBath_9 : decode cX3_needBath 9 = .ok (.if_icmp .eq 20, 3) := by decide +kernel
theorem dX3_needBath_12 : decode cX3_needBath 12 = .ok (.iload_n 0, 1) := by decide +kernel
theorem dX3_needBath_13 : decode cX3_needBath 13 = .ok (.bipush 98, 2) := by decide +kernel
theorem dX3_needBath_15 : decode cX3_needBath 15 = .ok (.if_icmp .eq 14, 3) := by decide +kernel
theorem dX3_needBath_18 : decode cX3_needBath 18 = .ok (.new 283, 3) := by decide +kernel
theorem dX3_needBath_21 : decode cX3_needBath 21 = .ok (.dup, 1) := by decide +kernel
theorem dX3_needBath_22 : decode cX3_needBath 22 = .ok (.ldc_w 290, 3) := by decide +kernel
theorem dX3_needBath_25 : decode cX3_needBath 25 = .ok (.invokespecial 287, 3) := by decide +kernel
theorem dX3_needBath_28 : decode cX3_needBath 28 = .ok (.athrow, 1) := by decide +kernel
theorem dX3_needBath_29 : decode cX3_needBath 29 = .ok (.return_, 1) := by decide +kernel
theorem dX3_needWithin_0 : decode cX3_needWithin 0 = .ok (.iload_n 0, 1) := by decide +kernel
theorem dX3_needWithin_1 : decode cX3_needWithin 1 = .ok (.iload_n 1, 1) := by decide +kernel
theorem dX3_needWithin_2 : decode cX3_needWithin 2 = .ok (.if_icmp .lt 8, 3) := by decide +kernel
theorem dX3_needWithin_5 : decode cX3_needWithin 5 = .ok (.iload_n 0, 1) := by decide +kernel
theorem dX3_needWithin_6 : decode cX3_needWithin 6 = .ok (.iload_n 2, 1) := by decide +kernel
theorem dX3_needWithin_7 : decode cX3_needWithin 7 = .ok (.if_icmp .le 14, 3) := by decide +kernel
theorem dX3_needWithin_10 : decode cX3_needWithin 10 = .ok (.new 283, 3) := by decide +kernel
theorem dX3_needWithin_13 : decode cX3_needWithin 13 = .ok (.dup, 1) := by decide +kernel
theorem dX3_needWithin_14 : decode cX3_needWithin 14 = .ok (.ldc_w 292, 3) := by decide +kernel
theorem dX3_needWithin_17 : decode cX3_needWithin 17 = .ok (.invokespecial 287, 3) := by decide +kernel
theorem dX3_needWithin_20 : decode cX3_needWithin 20 = .ok (.athrow, 1) := by decide +kernel
theorem dX3_needWithin_21 : decode cX3_needWithin 21 = .ok (.return_, 1) := by decide +kernel
theorem dX3_pitchOf_0 : decode cX3_pitchOf 0 = .ok (.iload_n 0, 1) := by decide +kernel
theorem dX3_pitchOf_1 : decode cX3_pitchOf 1 = .ok (.bipush 98, 2) := by decide +kernel
theorem dX3_pitchOf_3 : decode cX3_pitchOf 3 = .ok (.if_icmp .ne 8, 3) := by decide +kernel
theorem dX3_pitchOf_6 : decode cX3_pitchOf 6 = .ok (.bipush 6, 2) := by decide +kernel
theorem dX3_pitchOf_8 : decode cX3_pitchOf 8 = .ok (.goto 14, 3) := by decide +kernel
theorem dX3_pitchOf_11 : decode cX3_pitchOf 11 = .ok (.iload_n 0, 1) := by decide +kernel
theorem dX3_pitchOf_12 : decode cX3_pitchOf 12 = .ok (.bipush 115, 2) := by decide +kernel
theorem dX3_pitchOf_14 : decode cX3_pitchOf 14 = .ok (.if_icmp .ne 7, 3) := by decide +kernel
theorem dX3_pitchOf_17 : decode cX3_pitchOf 17 = .ok (.iconst 4, 1) := by decide +kernel
theorem dX3_pitchOf_18 : decode cX3_pitchOf 18 = .ok (.goto 4, 3) := by decide +kernel
theorem dX3_pitchOf_21 : decode cX3_pitchOf 21 = .ok (.iconst 3, 1) := by decide +kernel
theorem dX3_pitchOf_22 : decode cX3_pitchOf 22 = .ok (.ireturn, 1) := by decide +kernel
theorem dX3_depthOf_0 : decode cX3_depthOf 0 = .ok (.iload_n 0, 1) := by decide +kernel
theorem dX3_depthOf_1 : decode cX3_depthOf 1 = .ok (.bipush 98, 2) := by decide +kernel
theorem dX3_depthOf_3 : decode cX3_depthOf 3 = .ok (.if_icmp .ne 8, 3) := by decide +kernel
theorem dX3_depthOf_6 : decode cX3_depthOf 6 = .ok (.bipush 9, 2) := by decide +kernel
theorem dX3_depthOf_8 : decode cX3_depthOf 8 = .ok (.goto 15, 3) := by decide +kernel
theorem dX3_depthOf_11 : decode cX3_depthOf 11 = .ok (.iload_n 0, 1) := by decide +kernel
theorem dX3_depthOf_12 : decode cX3_depthOf 12 = .ok (.bipush 115, 2) := by decide +kernel
theorem dX3_depthOf_14 : decode cX3_depthOf 14 = .ok (.if_icmp .ne 8, 3) := by decide +kernel
theorem dX3_depthOf_17 : decode cX3_depthOf 17 = .ok (.bipush 6, 2) := by decide +kernel
theorem dX3_depthOf_19 : decode cX3_depthOf 19 = .ok (.goto 4, 3) := by decide +kernel
theorem dX3_depthOf_22 : decode cX3_depthOf 22 = .ok (.iconst 4, 1) := by decide +kernel
theorem dX3_depthOf_23 : decode cX3_depthOf 23 = .ok (.istore_n 2, 1) := by decide +kernel
theorem dX3_depthOf_24 : decode cX3_depthOf 24 = .ok (.iload_n 1, 1) := by decide +kernel
theorem dX3_depthOf_25 : decode cX3_depthOf 25 = .ok (.bipush 104, 2) := by decide +kernel
theorem dX3_depthOf_27 : decode cX3_depthOf 27 = .ok (.if_icmp .ne 9, 3) := by decide +kernel
theorem dX3_depthOf_30 : decode cX3_depthOf 30 = .ok (.iload_n 2, 1) := by decide +kernel
theorem dX3_depthOf_31 : decode cX3_depthOf 31 = .ok (.iconst 1, 1) := by decide +kernel
theorem dX3_depthOf_32 : decode cX3_depthOf 32 = .ok (.isub, 1) := by decide +kernel
theorem dX3_depthOf_33 : decode cX3_depthOf 33 = .ok (.goto 4, 3) := by decide +kernel
theorem dX3_depthOf_36 : decode cX3_depthOf 36 = .ok (.iload_n 2, 1) := by decide +kernel
theorem dX3_depthOf_37 : decode cX3_depthOf 37 = .ok (.ireturn, 1) := by decide +kernel
theorem dX3_forceOf_0 : decode cX3_forceOf 0 = .ok (.iload_n 0, 1) := by decide +kernel
theorem dX3_forceOf_1 : decode cX3_forceOf 1 = .ok (.bipush 111, 2) := by decide +kernel
theorem dX3_forceOf_3 : decode cX3_forceOf 3 = .ok (.if_icmp .ne 7, 3) := by decide +kernel
theorem dX3_forceOf_6 : decode cX3_forceOf 6 = .ok (.iconst 4, 1) := by decide +kernel
theorem dX3_forceOf_7 : decode cX3_forceOf 7 = .ok (.goto 16, 3) := by decide +kernel
theorem dX3_forceOf_10 : decode cX3_forceOf 10 = .ok (.iload_n 0, 1) := by decide +kernel
theorem dX3_forceOf_11 : decode cX3_forceOf 11 = .ok (.bipush 119, 2) := by decide +kernel
theorem dX3_forceOf_13 : decode cX3_forceOf 13 = .ok (.if_icmp .ne 8, 3) := by decide +kernel
theorem dX3_forceOf_16 : decode cX3_forceOf 16 = .ok (.bipush 8, 2) := by decide +kernel
theorem dX3_forceOf_18 : decode cX3_forceOf 18 = .ok (.goto 5, 3) := by decide +kernel
theorem dX3_forceOf_21 : decode cX3_forceOf 21 = .ok (.bipush 12, 2) := by decide +kernel
theorem dX3_forceOf_23 : decode cX3_forceOf 23 = .ok (.ireturn, 1) := by decide +kernel
theorem dX3_biteOf_0 : decode cX3_biteOf 0 = .ok (.iload_n 0, 1) := by decide +kernel
theorem dX3_biteOf_1 : decode cX3_biteOf 1 = .ok (.iload_n 1, 1) := by decide +kernel
theorem dX3_biteOf_2 : decode cX3_biteOf 2 = .ok (.if_icmp .le 14, 3) := by decide +kernel
theorem dX3_biteOf_5 : decode cX3_biteOf 5 = .ok (.iconst 1, 1) := by decide +kernel
theorem dX3_biteOf_6 : decode cX3_biteOf 6 = .ok (.iload_n 0, 1) := by decide +kernel
theorem dX3_biteOf_7 : decode cX3_biteOf 7 = .ok (.iload_n 1, 1) := by decide +kernel
theorem dX3_biteOf_8 : decode cX3_biteOf 8 = .ok (.isub, 1) := by decide +kernel
theorem dX3_biteOf_9 : decode cX3_biteOf 9 = .ok (.bipush 10, 2) := by decide +kernel
theorem dX3_biteOf_11 : decode cX3_biteOf 11 = .ok (.idiv, 1) := by decide +kernel
theorem dX3_biteOf_12 : decode cX3_biteOf 12 = .ok (.iadd, 1) := by decide +kernel
theorem dX3_biteOf_13 : decode cX3_biteOf 13 = .ok (.goto 4, 3) := by decide +kernel
theorem dX3_biteOf_16 : decode cX3_biteOf 16 = .ok (.iconst 0, 1) := by decide +kernel
theorem dX3_biteOf_17 : decode cX3_biteOf 17 = .ok (.ireturn, 1) := by decide +kernel
theorem dX4_init_0 : decode cX4_init 0 = .ok (.aload_n 0, 1) := by decide +kernel
theorem dX4_init_1 : decode cX4_init 1 = .ok (.invokespecial 1, 3) := by decide +kernel
theorem dX4_init_4 : decode cX4_init 4 = .ok (.aload_n 0, 1) := by decide +kernel
theorem dX4_init_5 : decode cX4_init 5 = .ok (.bipush 8, 2) := by decide +kernel
theorem dX4_init_7 : decode cX4_init 7 = .ok (.newarray .char, 2) := by decide +kernel
theorem dX4_init_9 : decode cX4_init 9 = .ok (.putfield 7, 3) := by decide +kernel
theorem dX4_init_12 : decode cX4_init 12 = .ok (.aload_n 0, 1) := by decide +kernel
theorem dX4_init_13 : decode cX4_init 13 = .ok (.bipush 8, 2) := by decide +kernel
theorem dX4_init_15 : decode cX4_init 15 = .ok (.newarray .char, 2) := by decide +kernel
theorem dX4_init_17 : decode cX4_init 17 = .ok (.putfield 13, 3) := by decide +kernel
theorem dX4_init_20 : decode cX4_init 20 = .ok (.aload_n 0, 1) := by decide +kernel
theorem dX4_init_21 : decode cX4_init 21 = .ok (.bipush 8, 2) := by decide +kernel
theorem dX4_init_23 : decode cX4_init 23 = .ok (.newarray .char, 2) := by decide +kernel
theorem dX4_init_25 : decode cX4_init 25 = .ok (.putfield 16, 3) := by decide +kernel
theorem dX4_init_28 : decode cX4_init 28 = .ok (.aload_n 0, 1) := by decide +kernel
theorem dX4_init_29 : decode cX4_init 29 = .ok (.bipush 8, 2) := by decide +kernel
theorem dX4_init_31 : decode cX4_init 31 = .ok (.newarray .int, 2) := by decide +kernel
theorem dX4_init_33 : decode cX4_init 33 = .ok (.putfield 19, 3) := by decide +kernel
theorem dX4_init_36 : decode cX4_init 36 = .ok (.aload_n 0, 1) := by decide +kernel
theorem dX4_init_37 : decode cX4_init 37 = .ok (.bipush 8, 2) := by decide +kernel
theorem dX4_init_39 : decode cX4_init 39 = .ok (.newarray .int, 2) := by decide +kernel
theorem dX4_init_41 : decode cX4_init 41 = .ok (.putfield 23, 3) := by decide +kernel
theorem dX4_init_44 : decode cX4_init 44 = .ok (.aload_n 0, 1) := by decide +kernel
theorem dX4_init_45 : decode cX4_init 45 = .ok (.bipush 8, 2) := by decide +kernel
theorem dX4_init_47 : decode cX4_init 47 = .ok (.newarray .int, 2) := by decide +kernel
theorem dX4_init_49 : decode cX4_init 49 = .ok (.putfield 26, 3) := by decide +kernel
theorem dX4_init_52 : decode cX4_init 52 = .ok (.aload_n 0, 1) := by decide +kernel
theorem dX4_init_53 : decode cX4_init 53 = .ok (.bipush 8, 2) := by decide +kernel
theorem dX4_init_55 : decode cX4_init 55 = .ok (.newarray .int, 2) := by decide +kernel
theorem dX4_init_57 : decode cX4_init 57 = .ok (.putfield 29, 3) := by decide +kernel
theorem dX4_init_60 : decode cX4_init 60 = .ok (.aload_n 0, 1) := by decide +kernel
theorem dX4_init_61 : decode cX4_init 61 = .ok (.bipush 8, 2) := by decide +kernel
theorem dX4_init_63 : decode cX4_init 63 = .ok (.newarray .int, 2) := by decide +kernel
theorem dX4_init_65 : decode cX4_init 65 = .ok (.putfield 32, 3) := by decide +kernel
theorem dX4_init_68 : decode cX4_init 68 = .ok (.aload_n 0, 1) := by decide +kernel
theorem dX4_init_69 : decode cX4_init 69 = .ok (.bipush 8, 2) := by decide +kernel
theorem dX4_init_71 : decode cX4_init 71 = .ok (.newarray .int, 2) := by decide +kernel
theorem dX4_init_73 : decode cX4_init 73 = .ok (.putfield 35, 3) := by decide +kernel
theorem dX4_init_76 : decode cX4_init 76 = .ok (.aload_n 0, 1) := by decide +kernel
theorem dX4_init_77 : decode cX4_init 77 = .ok (.bipush 8, 2) := by decide +kernel
theorem dX4_init_79 : decode cX4_init 79 = .ok (.newarray .int, 2) := by decide +kernel
theorem dX4_init_81 : decode cX4_init 81 = .ok (.putfield 38, 3) := by decide +kernel
theorem dX4_init_84 : decode cX4_init 84 = .ok (.aload_n 0, 1) := by decide +kernel
theorem dX4_init_85 : decode cX4_init 85 = .ok (.bipush 8, 2) := by decide +kernel
theorem dX4_init_87 : decode cX4_init 87 = .ok (.newarray .int, 2) := by decide +kernel
theorem dX4_init_89 : decode cX4_init 89 = .ok (.putfield 41, 3) := by decide +kernel
theorem dX4_init_92 : decode cX4_init 92 = .ok (.aload_n 0, 1) := by decide +kernel
theorem dX4_init_93 : decode cX4_init 93 = .ok (.bipush 8, 2) := by decide +kernel
theorem dX4_init_95 : decode cX4_init 95 = .ok (.newarray .int, 2) := by decide +kernel
theorem dX4_init_97 : decode cX4_init 97 = .ok (.putfield 44, 3) := by decide +kernel
theorem dX4_init_100 : decode cX4_init 100 = .ok (.aload_n 0, 1) := by decide +kernel
theorem dX4_init_101 : decode cX4_init 101 = .ok (.bipush 8, 2) := by decide +kernel
theorem dX4_init_103 : decode cX4_init 103 = .ok (.newarray .int, 2) := by decide +kernel
theorem dX4_init_105 : decode cX4_init 105 = .ok (.putfield 47, 3) := by decide +kernel
theorem dX4_init_108 : decode cX4_init 108 = .ok (.aload_n 0, 1) := by decide +kernel
theorem dX4_init_109 : decode cX4_init 109 = .ok (.bipush 8, 2) := by decide +kernel
theorem dX4_init_111 : decode cX4_init 111 = .ok (.newarray .int, 2) := by decide +kernel
theorem dX4_init_113 : decode cX4_init 113 = .ok (.putfield 50, 3) := by decide +kernel
theorem dX4_init_116 : decode cX4_init 116 = .ok (.aload_n 0, 1) := by decide +kernel
theorem dX4_init_117 : decode cX4_init 117 = .ok (.bipush 8, 2) := by decide +kernel
theorem dX4_init_119 : decode cX4_init 119 = .ok (.newarray .int, 2) := by decide +kernel
theorem dX4_init_121 : decode cX4_init 121 = .ok (.putfield 53, 3) := by decide +kernel
theorem dX4_init_124 : decode cX4_init 124 = .ok (.aload_n 0, 1) := by decide +kernel
theorem dX4_init_125 : decode cX4_init 125 = .ok (.bipush 8, 2) := by decide +kernel
theorem dX4_init_127 : decode cX4_init 127 = .ok (.newarray .boolean, 2) := by decide +kernel
theorem dX4_init_129 : decode cX4_init 129 = .ok (.putfield 56, 3) := by decide +kernel
theorem dX4_init_132 : decode cX4_init 132 = .ok (.aload_n 0, 1) := by decide +kernel
theorem dX4_init_133 : decode cX4_init 133 = .ok (.bipush 8, 2) := by decide +kernel
theorem dX4_init_135 : decode cX4_init 135 = .ok (.newarray .boolean, 2) := by decide +kernel
theorem dX4_init_137 : decode cX4_init 137 = .ok (.putfield 60, 3) := by decide +kernel
theorem dX4_init_140 : decode cX4_init 140 = .ok (.aload_n 0, 1) := by decide +kernel
theorem dX4_init_141 : decode cX4_init 141 = .ok (.bipush 8, 2) := by decide +kernel
theorem dX4_init_143 : decode cX4_init 143 = .ok (.newarray .boolean, 2) := by decide +kernel
theorem dX4_init_145 : decode cX4_init 145 = .ok (.putfield 63, 3) := by decide +kernel
theorem dX4_init_148 : decode cX4_init 148 = .ok (.aload_n 0, 1) := by decide +kernel
theorem dX4_init_149 : decode cX4_init 149 = .ok (.sipush 480, 3) := by decide +kernel
theorem dX4_init_152 : decode cX4_init 152 = .ok (.newarray .int, 2) := by decide +kernel
theorem dX4_init_154 : decode cX4_init 154 = .ok (.putfield 66, 3) := by decide +kernel
theorem dX4_init_157 : decode cX4_init 157 = .ok (.aload_n 0, 1) := by decide +kernel
theorem dX4_init_158 : decode cX4_init 158 = .ok (.sipush 480, 3) := by decide +kernel
theorem dX4_init_161 : decode cX4_init 161 = .ok (.newarray .int, 2) := by decide +kernel
theorem dX4_init_163 : decode cX4_init 163 = .ok (.putfield 69, 3) := by decide +kernel
theorem dX4_init_166 : decode cX4_init 166 = .ok (.aload_n 0, 1) := by decide +kernel
theorem dX4_init_167 : decode cX4_init 167 = .ok (.iconst 1, 1) := by decide +kernel
theorem dX4_init_168 : decode cX4_init 168 = .ok (.putfield 72, 3) := by decide +kernel
theorem dX4_init_171 : decode cX4_init 171 = .ok (.aload_n 0, 1) := by decide +kernel
theorem dX4_init_172 : decode cX4_init 172 = .ok (.bipush 6, 2) := by decide +kernel
theorem dX4_init_174 : decode cX4_init 174 = .ok (.newarray .char, 2) := by decide +kernel
theorem dX4_init_176 : decode cX4_init 176 = .ok (.putfield 76, 3) := by decide +kernel
theorem dX4_init_179 : decode cX4_init 179 = .ok (.aload_n 0, 1) := by decide +kernel
theorem dX4_init_180 : decode cX4_init 180 = .ok (.bipush 6, 2) := by decide +kernel
theorem dX4_init_182 : decode cX4_init 182 = .ok (.newarray .char, 2) := by decide +kernel
theorem dX4_init_184 : decode cX4_init 184 = .ok (.putfield 79, 3) := by decide +kernel
theorem dX4_init_187 : decode cX4_init 187 = .ok (.aload_n 0, 1) := by decide +kernel
theorem dX4_init_188 : decode cX4_init 188 = .ok (.bipush 6, 2) := by decide +kernel
theorem dX4_init_190 : decode cX4_init 190 = .ok (.newarray .int, 2) := by decide +kernel
theorem dX4_init_192 : decode cX4_init 192 = .ok (.putfield 82, 3) := by decide +kernel
theorem dX4_init_195 : decode cX4_init 195 = .ok (.aload_n 0, 1) := by decide +kernel
theorem dX4_init_196 : decode cX4_init 196 = .ok (.bipush 6, 2) := by decide +kernel
theorem dX4_init_198 : decode cX4_init 198 = .ok (.newarray .int, 2) := by decide +kernel
theorem dX4_init_200 : decode cX4_init 200 = .ok (.putfield 85, 3) := by decide +kernel
theorem dX4_init_203 : decode cX4_init 203 = .ok (.return_, 1) := by decide +kernel
theorem dX4_isWrong_0 : decode cX4_isWrong 0 = .ok (.aload_n 0, 1) := by decide +kernel
theorem dX4_isWrong_1 : decode cX4_isWrong 1 = .ok (.iload_n 1, 1) := by decide +kernel
theorem dX4_isWrong_2 : decode cX4_isWrong 2 = .ok (.putfield 88, 3) := by decide +kernel
theorem dX4_isWrong_5 : decode cX4_isWrong 5 = .ok (.iload_n 1, 1) := by decide +kernel
theorem dX4_isWrong_6 : decode cX4_isWrong 6 = .ok (.ifCond .le 7, 3) := by decide +kernel
theorem dX4_isWrong_9 : decode cX4_isWrong 9 = .ok (.iconst 1, 1) := by decide +kernel
theorem dX4_isWrong_10 : decode cX4_isWrong 10 = .ok (.goto 4, 3) := by decide +kernel
theorem dX4_isWrong_13 : decode cX4_isWrong 13 = .ok (.iconst 0, 1) := by decide +kernel
theorem dX4_isWrong_14 : decode cX4_isWrong 14 = .ok (.ireturn, 1) := by decide +kernel
theorem dX4_isBetween_0 : decode cX4_isBetween 0 = .ok (.iload_n 1, 1) := by decide +kernel
theorem dX4_isBetween_1 : decode cX4_isBetween 1 = .ok (.iload_n 0, 1) := by decide +kernel
theorem dX4_isBetween_2 : decode cX4_isBetween 2 = .ok (.if_icmp .gt 12, 3) := by decide +kernel
theorem dX4_isBetween_5 : decode cX4_isBetween 5 = .ok (.iload_n 0, 1) := by decide +kernel
theorem dX4_isBetween_6 : decode cX4_isBetween 6 = .ok (.iload_n 2, 1) := by decide +kernel
theorem dX4_isBetween_7 : decode cX4_isBetween 7 = .ok (.if_icmp .gt 7, 3) := by decide +kernel
theorem dX4_isBetween_10 : decode cX4_isBetween 10 = .ok (.iconst 1, 1) := by decide +kernel
theorem dX4_isBetween_11 : decode cX4_isBetween 11 = .ok (.goto 4, 3) := by decide +kernel
theorem dX4_isBetween_14 : decode cX4_isBetween 14 = .ok (.iconst 0, 1) := by decide +kernel
theorem dX4_isBetween_15 : decode cX4_isBetween 15 = .ok (.ireturn, 1) := by decide +kernel
theorem dX4_least_0 : decode cX4_least 0 = .ok (.iload_n 0, 1) := by decide +kernel
theorem dX4_least_1 : decode cX4_least 1 = .ok (.iload_n 1, 1) := by decide +kernel
theorem dX4_least_2 : decode cX4_least 2 = .ok (.if_icmp .ge 7, 3) := by decide +kernel
theorem dX4_least_5 : decode cX4_least 5 = .ok (.iload_n 0, 1) := by decide +kernel
theorem dX4_least_6 : decode cX4_least 6 = .ok (.goto 4, 3) := by decide +kernel
theorem dX4_least_9 : decode cX4_least 9 = .ok (.iload_n 1, 1) := by decide +kernel
theorem dX4_least_10 : decode cX4_least 10 = .ok (.ireturn, 1) := by decide +kernel
theorem dX4_most_0 : decode cX4_most 0 = .ok (.iload_n 0, 1) := by decide +kernel
theorem dX4_most_1 : decode cX4_most 1 = .ok (.iload_n 1, 1) := by decide +kernel
theorem dX4_most_2 : decode cX4_most 2 = .ok (.if_icmp .le 7, 3) := by decide +kernel
theorem dX4_most_5 : decode cX4_most 5 = .ok (.iload_n 0, 1) := by decide +kernel
theorem dX4_most_6 : decode cX4_most 6 = .ok (.goto 4, 3) := by decide +kernel
theorem dX4_most_9 : decode cX4_most 9 = .ok (.iload_n 1, 1) := by decide +kernel
theorem dX4_most_10 : decode cX4_most 10 = .ok (.ireturn, 1) := by decide +kernel
theorem dX4_isShape_0 : decode cX4_isShape 0 = .ok (.iload_n 0, 1) := by decide +kernel
theorem dX4_isShape_1 : decode cX4_isShape 1 = .ok (.bipush 102, 2) := by decide +kernel
theorem dX4_isShape_3 : decode cX4_isShape 3 = .ok (.if_icmp .eq 15, 3) := by decide +kernel
theorem dX4_isShape_6 : decode cX4_isShape 6 = .ok (.iload_n 0, 1) := by decide +kernel
theorem dX4_isShape_7 : decode cX4_isShape 7 = .ok (.bipush 104, 2) := by decide +kernel
theorem dX4_isShape_9 : decode cX4_isShape 9 = .ok (.if_icmp .eq 9, 3) := by decide +kernel
theorem dX4_isShape_12 : decode cX4_isShape 12 = .ok (.iload_n 0, 1) := by decide +kernel
theorem dX4_isShape_13 : decode cX4_isShape 13 = .ok (.bipush 115, 2) := by decide +kernel
theorem dX4_isShape_15 : decode cX4_isShape 15 = .ok (.if_icmp .ne 7, 3) := by decide +kernel
theorem dX4_isShape_18 : decode cX4_isShape 18 = .ok (.iconst 1, 1) := by decide +kernel
theorem dX4_isShape_19 : decode cX4_isShape 19 = .ok (.goto 4, 3) := by decide +kernel
theorem dX4_isShape_22 : decode cX4_isShape 22 = .ok (.iconst 0, 1) := by decide +kernel
theorem dX4_isShape_23 : decode cX4_isShape 23 = .ok (.ireturn, 1) := by decide +kernel
theorem dX4_isCut_0 : decode cX4_isCut 0 = .ok (.iload_n 0, 1) := by decide +kernel
theorem dX4_isCut_1 : decode cX4_isCut 1 = .ok (.bipush 98, 2) := by decide +kernel
theorem dX4_isCut_3 : decode cX4_isCut 3 = .ok (.if_icmp .eq 15, 3) := by decide +kernel
theorem dX4_isCut_6 : decode cX4_isCut 6 = .ok (.iload_n 0, 1) := by decide +kernel
theorem dX4_isCut_7 : decode cX4_isCut 7 = .ok (.bipush 115, 2) := by decide +kernel
theorem dX4_isCut_9 : decode cX4_isCut 9 = .ok (.if_icmp .eq 9, 3) := by decide +kernel
theorem dX4_isCut_12 : decode cX4_isCut 12 = .ok (.iload_n 0, 1) := by decide +kernel
theorem dX4_isCut_13 : decode cX4_isCut 13 = .ok (.bipush 109, 2) := by decide +kernel
theorem dX4_isCut_15 : decode cX4_isCut 15 = .ok (.if_icmp .ne 7, 3) := by decide +kernel
theorem dX4_isCut_18 : decode cX4_isCut 18 = .ok (.iconst 1, 1) := by decide +kernel
theorem dX4_isCut_19 : decode cX4_isCut 19 = .ok (.goto 4, 3) := by decide +kernel
theorem dX4_isCut_22 : decode cX4_isCut 22 = .ok (.iconst 0, 1) := by decide +kernel
theorem dX4_isCut_23 : decode cX4_isCut 23 = .ok (.ireturn, 1) := by decide +kernel
theorem dX4_pitchOf_0 : decode cX4_pitchOf 0 = .ok (.iload_n 0, 1) := by decide +kernel
theorem dX4_pitchOf_1 : decode cX4_pitchOf 1 = .ok (.bipush 98, 2) := by decide +kernel
theorem dX4_pitchOf_3 : decode cX4_pitchOf 3 = .ok (.if_icmp .ne 8, 3) := by decide +kernel
theorem dX4_pitchOf_6 : decode cX4_pitchOf 6 = .ok (.bipush 6, 2) := by decide +kernel
theorem dX4_pitchOf_8 : decode cX4_pitchOf 8 = .ok (.goto 14, 3) := by decide +kernel
theorem dX4_pitchOf_11 : decode cX4_pitchOf 11 = .ok (.iload_n 0, 1) := by decide +kernel
theorem dX4_pitchOf_12 : decode cX4_pitchOf 12 = .ok (.bipush 115, 2) := by decide +kernel
theorem dX4_pitchOf_14 : decode cX4_pitchOf 14 = .ok (.if_icmp .ne 7, 3) := by decide +kernel
theorem dX4_pitchOf_17 : decode cX4_pitchOf 17 = .ok (.iconst 4, 1) := by decide +kernel
theorem dX4_pitchOf_18 : decode cX4_pitchOf 18 = .ok (.goto 4, 3) := by decide +kernel
theorem dX4_pitchOf_21 : decode cX4_pitchOf 21 = .ok (.iconst 3, 1) := by decide +kernel
theorem dX4_pitchOf_22 : decode cX4_pitchOf 22 = .ok (.ireturn, 1) := by decide +kernel
theorem dX4_depthOf_0 : decode cX4_depthOf 0 = .ok (.iload_n 1, 1) := by decide +kernel
theorem dX4_depthOf_1 : decode cX4_depthOf 1 = .ok (.bipush 98, 2) := by decide +kernel
theorem dX4_depthOf_3 : decode cX4_depthOf 3 = .ok (.if_icmp .ne 8, 3) := by decide +kernel
theorem dX4_depthOf_6 : decode cX4_depthOf 6 = .ok (.bipush 9, 2) := by decide +kernel
theorem dX4_depthOf_8 : decode cX4_depthOf 8 = .ok (.goto 15, 3) := by decide +kernel
theorem dX4_depthOf_11 : decode cX4_depthOf 11 = .ok (.iload_n 1, 1) := by decide +kernel
theorem dX4_depthOf_12 : decode cX4_depthOf 12 = .ok (.bipush 115, 2) := by decide +kernel
theorem dX4_depthOf_14 : decode cX4_depthOf 14 = .ok (.if_icmp .ne 8, 3) := by decide +kernel
theorem dX4_depthOf_17 : decode cX4_depthOf 17 = .ok (.bipush 6, 2) := by decide +kernel
theorem dX4_depthOf_19 : decode cX4_depthOf 19 = .ok (.goto 4, 3) := by decide +kernel
theorem dX4_depthOf_22 : decode cX4_depthOf 22 = .ok (.iconst 4, 1) := by decide +kernel
theorem dX4_depthOf_23 : decode cX4_depthOf 23 = .ok (.iload_n 0, 1) := by decide +kernel
theorem dX4_depthOf_24 : decode cX4_depthOf 24 = .ok (.bipush 104, 2) := by decide +kernel
theorem dX4_depthOf_26 : decode cX4_depthOf 26 = .ok (.if_icmp .ne 7, 3) := by decide +kernel
theorem dX4_depthOf_29 : decode cX4_depthOf 29 = .ok (.iconst 1, 1) := by decide +kernel
theorem dX4_depthOf_30 : decode cX4_depthOf 30 = .ok (.goto 4, 3) := by decide +kernel
theorem dX4_depthOf_33 : decode cX4_depthOf 33 = .ok (.iconst 0, 1) := by decide +kernel
theorem dX4_depthOf_34 : decode cX4_depthOf 34 = .ok (.isub, 1) := by decide +kernel
theorem dX4_depthOf_35 : decode cX4_depthOf 35 = .ok (.ireturn, 1) := by decide +kernel
theorem dX4_isNone_0 : decode cX4_isNone 0 = .ok (.aload_n 0, 1) := by decide +kernel
theorem dX4_isNone_1 : decode cX4_isNone 1 = .ok (.iload_n 1, 1) := by decide +kernel
theorem dX4_isNone_2 : decode cX4_isNone 2 = .ok (.iconst 0, 1) := by decide +kernel
theorem dX4_isNone_3 : decode cX4_isNone 3 = .ok (.aload_n 0, 1) := by decide +kernel
theorem dX4_isNone_4 : decode cX4_isNone 4 = .ok (.getfield 91, 3) := by decide +kernel
theorem dX4_isNone_7 : decode cX4_isNone 7 = .ok (.iconst 1, 1) := by decide +kernel
theorem dX4_isNone_8 : decode cX4_isNone 8 = .ok (.isub, 1) := by decide +kernel
theorem dX4_isNone_9 : decode cX4_isNone 9 = .ok (.invokestatic 94, 3) := by decide +kernel
theorem dX4_isNone_12 : decode cX4_isNone 12 = .ok (.ifCond .eq 16, 3) := by decide +kernel
theorem dX4_isNone_15 : decode cX4_isNone 15 = .ok (.aload_n 0, 1) := by decide +kernel
theorem dX4_isNone_16 : decode cX4_isNone 16 = .ok (.getfield 63, 3) := by decide +kernel
theorem dX4_isNone_19 : decode cX4_isNone 19 = .ok (.iload_n 1, 1) := by decide +kernel
theorem dX4_isNone_20 : decode cX4_isNone 20 = .ok (.baload, 1) := by decide +kernel
theorem dX4_isNone_21 : decode cX4_isNone 21 = .ok (.ifCond .ne 7, 3) := by decide +kernel
theorem dX4_isNone_24 : decode cX4_isNone 24 = .ok (.iconst 0, 1) := by decide +kernel
theorem dX4_isNone_25 : decode cX4_isNone 25 = .ok (.goto 4, 3) := by decide +kernel
theorem dX4_isNone_28 : decode cX4_isNone 28 = .ok (.iconst 1, 1) := by decide +kernel
theorem dX4_isNone_29 : decode cX4_isNone 29 = .ok (.invokevirtual 98, 3) := by decide +kernel
theorem dX4_isNone_32 : decode cX4_isNone 32 = .ok (.ireturn, 1) := by decide +kernel
theorem dX4_depth_0 : decode cX4_depth 0 = .ok (.aload_n 0, 1) := by decide +kernel
theorem dX4_depth_1 : decode cX4_depth 1 = .ok (.getfield 7, 3) := by decide +kernel
theorem dX4_depth_4 : decode cX4_depth 4 = .ok (.iload_n 1, 1) := by decide +kernel
theorem dX4_depth_5 : decode cX4_depth 5 = .ok (.caload, 1) := by decide +kernel
theorem dX4_depth_6 : decode cX4_depth 6 = .ok (.aload_n 0, 1) := by decide +kernel
theorem dX4_depth_7 : decode cX4_depth 7 = .ok (.getfield 13, 3) := by decide +kernel
theorem dX4_depth_10 : decode cX4_depth 10 = .ok (.iload_n 1, 1) := by decide +kernel
theorem dX4_depth_11 : decode cX4_depth 11 = .ok (.caload, 1) := by decide +kernel
theorem dX4_depth_12 : decode cX4_depth 12 = .ok (.invokestatic 102, 3) := by decide +kernel
theorem dX4_depth_15 : decode cX4_depth 15 = .ok (.ireturn, 1) := by decide +kernel
theorem dX4_placeOf_0 : decode cX4_placeOf 0 = .ok (.iconst 0, 1) := by decide +kernel
theorem dX4_placeOf_1 : decode cX4_placeOf 1 = .ok (.istore_n 3, 1) := by decide +kernel
theorem dX4_placeOf_2 : decode cX4_placeOf 2 = .ok (.iconst 0, 1) := by decide +kernel
theorem dX4_placeOf_3 : decode cX4_placeOf 3 = .ok (.istore 4, 2) := by decide +kernel
theorem dX4_placeOf_5 : decode cX4_placeOf 5 = .ok (.iload 4, 2) := by decide +kernel
theorem dX4_placeOf_7 : decode cX4_placeOf 7 = .ok (.iload_n 2, 1) := by decide +kernel
theorem dX4_placeOf_8 : decode cX4_placeOf 8 = .ok (.if_icmp .ge 33, 3) := by decide +kernel
theorem dX4_placeOf_11 : decode cX4_placeOf 11 = .ok (.iload_n 3, 1) := by decide +kernel
theorem dX4_placeOf_12 : decode cX4_placeOf 12 = .ok (.aload_n 0, 1) := by decide +kernel
theorem dX4_placeOf_13 : decode cX4_placeOf 13 = .ok (.getfield 13, 3) := by decide +kernel
theorem dX4_placeOf_16 : decode cX4_placeOf 16 = .ok (.iload_n 1, 1) := by decide +kernel
theorem dX4_placeOf_17 : decode cX4_placeOf 17 = .ok (.caload, 1) := by decide +kernel
theorem dX4_placeOf_18 : decode cX4_placeOf 18 = .ok (.invokestatic 106, 3) := by decide +kernel
theorem dX4_placeOf_21 : decode cX4_placeOf 21 = .ok (.iload 4, 2) := by decide +kernel
theorem dX4_placeOf_23 : decode cX4_placeOf 23 = .ok (.iconst 3, 1) := by decide +kernel
theorem dX4_placeOf_24 : decode cX4_placeOf 24 = .ok (.irem, 1) := by decide +kernel
theorem dX4_placeOf_25 : decode cX4_placeOf 25 = .ok (.aload_n 0, 1) := by decide +kernel
theorem dX4_placeOf_26 : decode cX4_placeOf 26 = .ok (.getfield 29, 3) := by decide +kernel
theorem dX4_placeOf_29 : decode cX4_placeOf 29 = .ok (.iload_n 1, 1) := by decide +kernel
theorem dX4_placeOf_30 : decode cX4_placeOf 30 = .ok (.iaload, 1) := by decide +kernel
theorem dX4_placeOf_31 : decode cX4_placeOf 31 = .ok (.imul, 1) := by decide +kernel
theorem dX4_placeOf_32 : decode cX4_placeOf 32 = .ok (.iadd, 1) := by decide +kernel
theorem dX4_placeOf_33 : decode cX4_placeOf 33 = .ok (.iadd, 1) := by decide +kernel
theorem dX4_placeOf_34 : decode cX4_placeOf 34 = .ok (.istore_n 3, 1) := by decide +kernel
theorem dX4_placeOf_35 : decode cX4_placeOf 35 = .ok (.iinc 4 1, 3) := by decide +kernel
theorem dX4_placeOf_38 : decode cX4_placeOf 38 = .ok (.goto (-33), 3) := by decide +kernel
theorem dX4_placeOf_41 : decode cX4_placeOf 41 = .ok (.iload_n 3, 1) := by decide +kernel
theorem dX4_placeOf_42 : decode cX4_placeOf 42 = .ok (.ireturn, 1) := by decide +kernel
theorem dX4_doesSing_0 : decode cX4_doesSing 0 = .ok (.aload_n 0, 1) := by decide +kernel
theorem dX4_doesSing_1 : decode cX4_doesSing 1 = .ok (.getfield 53, 3) := by decide +kernel
theorem dX4_doesSing_4 : decode cX4_doesSing 4 = .ok (.iload_n 1, 1) := by decide +kernel
theorem dX4_doesSing_5 : decode cX4_doesSing 5 = .ok (.iaload, 1) := by decide +kernel
theorem dX4_doesSing_6 : decode cX4_doesSing 6 = .ok (.iconst 3, 1) := by decide +kernel
theorem dX4_doesSing_7 : decode cX4_doesSing 7 = .ok (.if_icmp .lt 16, 3) := by decide +kernel
theorem dX4_doesSing_10 : decode cX4_doesSing 10 = .ok (.aload_n 0, 1) := by decide +kernel
theorem dX4_doesSing_11 : decode cX4_doesSing 11 = .ok (.getfield 29, 3) := by decide +kernel
theorem dX4_doesSing_14 : decode cX4_doesSing 14 = .ok (.iload_n 1, 1) := by decide +kernel
theorem dX4_doesSing_15 : decode cX4_doesSing 15 = .ok (.iaload, 1) := by decide +kernel
theorem dX4_doesSing_16 : decode cX4_doesSing 16 = .ok (.ifCond .ne 7, 3) := by decide +kernel
theorem dX4_doesSing_19 : decode cX4_doesSing 19 = .ok (.iconst 1, 1) := by decide +kernel
theorem dX4_doesSing_20 : decode cX4_doesSing 20 = .ok (.goto 4, 3) := by decide +kernel
theorem dX4_doesSing_23 : decode cX4_doesSing 23 = .ok (.iconst 0, 1) := by decide +kernel
theorem dX4_doesSing_24 : decode cX4_doesSing 24 = .ok (.ireturn, 1) := by decide +kernel
theorem dX4_holds_0 : decode cX4_holds 0 = .ok (.aload_n 0, 1) := by decide +kernel
theorem dX4_holds_1 : decode cX4_holds 1 = .ok (.getfield 53, 3) := by decide +kernel
theorem dX4_holds_4 : decode cX4_holds 4 = .ok (.iload_n 1, 1) := by decide +kernel
theorem dX4_holds_5 : decode cX4_holds 5 = .ok (.iaload, 1) := by decide +kernel
theorem dX4_holds_6 : decode cX4_holds 6 = .ok (.ifCond .ne 7, 3) := by decide +kernel
theorem dX4_holds_9 : decode cX4_holds 9 = .ok (.iconst 0, 1) := by decide +kernel
theorem dX4_holds_10 : decode cX4_holds 10 = .ok (.goto 37, 3) := by decide +kernel
theorem dX4_holds_13 : decode cX4_holds 13 = .ok (.aload_n 0, 1) := by decide +kernel
theorem dX4_holds_14 : decode cX4_holds 14 = .ok (.iload_n 1, 1) := by decide +kernel
theorem dX4_holds_15 : decode cX4_holds 15 = .ok (.invokevirtual 110, 3) := by decide +kernel
theorem dX4_holds_18 : decode cX4_holds 18 = .ok (.aload_n 0, 1) := by decide +kernel
theorem dX4_holds_19 : decode cX4_holds 19 = .ok (.getfield 7, 3) := by decide +kernel
theorem dX4_holds_22 : decode cX4_holds 22 = .ok (.iload_n 1, 1) := by decide +kernel
theorem dX4_holds_23 : decode cX4_holds 23 = .ok (.caload, 1) := by decide +kernel
theorem dX4_holds_24 : decode cX4_holds 24 = .ok (.bipush 115, 2) := by decide +kernel
theorem dX4_holds_26 : decode cX4_holds 26 = .ok (.if_icmp .ne 12, 3) := by decide +kernel
theorem dX4_holds_29 : decode cX4_holds 29 = .ok (.aload_n 0, 1) := by decide +kernel
theorem dX4_holds_30 : decode cX4_holds 30 = .ok (.getfield 32, 3) := by decide +kernel
theorem dX4_holds_33 : decode cX4_holds 33 = .ok (.iload_n 1, 1) := by decide +kernel
theorem dX4_holds_34 : decode cX4_holds 34 = .ok (.iaload, 1) := by decide +kernel
theorem dX4_holds_35 : decode cX4_holds 35 = .ok (.goto 4, 3) := by decide +kernel
theorem dX4_holds_38 : decode cX4_holds 38 = .ok (.iconst 0, 1) := by decide +kernel
theorem dX4_holds_39 : decode cX4_holds 39 = .ok (.iadd, 1) := by decide +kernel
theorem dX4_holds_40 : decode cX4_holds 40 = .ok (.aload_n 0, 1) := by decide +kernel
theorem dX4_holds_41 : decode cX4_holds 41 = .ok (.getfield 53, 3) := by decide +kernel
theorem dX4_holds_44 : decode cX4_holds 44 = .ok (.iload_n 1, 1) := by decide +kernel
theorem dX4_holds_45 : decode cX4_holds 45 = .ok (.iaload, 1) := by decide +kernel
theorem dX4_holds_46 : decode cX4_holds 46 = .ok (.imul, 1) := by decide +kernel
theorem dX4_holds_47 : decode cX4_holds 47 = .ok (.ireturn, 1) := by decide +kernel
theorem dX4_full_0 : decode cX4_full 0 = .ok (.aload_n 0, 1) := by decide +kernel
theorem dX4_full_1 : decode cX4_full 1 = .ok (.iload_n 1, 1) := by decide +kernel
theorem dX4_full_2 : decode cX4_full 2 = .ok (.invokevirtual 110, 3) := by decide +kernel
theorem dX4_full_5 : decode cX4_full 5 = .ok (.aload_n 0, 1) := by decide +kernel
theorem dX4_full_6 : decode cX4_full 6 = .ok (.getfield 56, 3) := by decide +kernel
theorem dX4_full_9 : decode cX4_full 9 = .ok (.iload_n 1, 1) := by decide +kernel
theorem dX4_full_10 : decode cX4_full 10 = .ok (.baload, 1) := by decide +kernel
theorem dX4_full_11 : decode cX4_full 11 = .ok (.ifCond .eq 7, 3) := by decide +kernel
theorem dX4_full_14 : decode cX4_full 14 = .ok (.iconst 1, 1) := by decide +kernel
theorem dX4_full_15 : decode cX4_full 15 = .ok (.goto 4, 3) := by decide +kernel
theorem dX4_full_18 : decode cX4_full 18 = .ok (.iconst 0, 1) := by decide +kernel
theorem dX4_full_19 : decode cX4_full 19 = .ok (.isub, 1) := by decide +kernel
theorem dX4_full_20 : decode cX4_full 20 = .ok (.ireturn, 1) := by decide +kernel
theorem dX4_worn_0 : decode cX4_worn 0 = .ok (.iconst 0, 1) := by decide +kernel
theorem dX4_worn_1 : decode cX4_worn 1 = .ok (.istore_n 2, 1) := by decide +kernel
theorem dX4_worn_2 : decode cX4_worn 2 = .ok (.bipush 60, 2) := by decide +kernel
theorem dX4_worn_4 : decode cX4_worn 4 = .ok (.iload_n 1, 1) := by decide +kernel
theorem dX4_worn_5 : decode cX4_worn 5 = .ok (.imul, 1) := by decide +kernel
theorem dX4_worn_6 : decode cX4_worn 6 = .ok (.istore_n 3, 1) := by decide +kernel
theorem dX4_worn_7 : decode cX4_worn 7 = .ok (.iload_n 3, 1) := by decide +kernel
theorem dX4_worn_8 : decode cX4_worn 8 = .ok (.bipush 60, 2) := by decide +kernel
theorem dX4_worn_10 : decode cX4_worn 10 = .ok (.iload_n 1, 1) := by decide +kernel
theorem dX4_worn_11 : decode cX4_worn 11 = .ok (.imul, 1) := by decide +kernel
theorem dX4_worn_12 : decode cX4_worn 12 = .ok (.aload_n 0, 1) := by decide +kernel
theorem dX4_worn_13 : decode cX4_worn 13 = .ok (.getfield 53, 3) := by decide +kernel
theorem dX4_worn_16 : decode cX4_worn 16 = .ok (.iload_n 1, 1) := by decide +kernel
theorem dX4_worn_17 : decode cX4_worn 17 = .ok (.iaload, 1) := by decide +kernel
theorem dX4_worn_18 : decode cX4_worn 18 = .ok (.iadd, 1) := by decide +kernel
theorem dX4_worn_19 : decode cX4_worn 19 = .ok (.if_icmp .ge 31, 3) := by decide +kernel
theorem dX4_worn_22 : decode cX4_worn 22 = .ok (.iload_n 2, 1) := by decide +kernel
theorem dX4_worn_23 : decode cX4_worn 23 = .ok (.aload_n 0, 1) := by decide +kernel
theorem dX4_worn_24 : decode cX4_worn 24 = .ok (.getfield 66, 3) := by decide +kernel
theorem dX4_worn_27 : decode cX4_worn 27 = .ok (.iload_n 3, 1) := by decide +kernel
theorem dX4_worn_28 : decode cX4_worn 28 = .ok (.iaload, 1) := by decide +kernel
theorem dX4_worn_29 : decode cX4_worn 29 = .ok (.aload_n 0, 1) := by decide +kernel
theorem dX4_worn_30 : decode cX4_worn 30 = .ok (.iload_n 1, 1) := by decide +kernel
theorem dX4_worn_31 : decode cX4_worn 31 = .ok (.invokevirtual 114, 3) := by decide +kernel
theorem dX4_worn_34 : decode cX4_worn 34 = .ok (.if_icmp .ge 7, 3) := by decide +kernel
theorem dX4_worn_37 : decode cX4_worn 37 = .ok (.iconst 1, 1) := by decide +kernel
theorem dX4_worn_38 : decode cX4_worn 38 = .ok (.goto 4, 3) := by decide +kernel
theorem dX4_worn_41 : decode cX4_worn 41 = .ok (.iconst 0, 1) := by decide +kernel
theorem dX4_worn_42 : decode cX4_worn 42 = .ok (.iadd, 1) := by decide +kernel
theorem dX4_worn_43 : decode cX4_worn 43 = .ok (.istore_n 2, 1) := by decide +kernel
theorem dX4_worn_44 : decode cX4_worn 44 = .ok (.iinc 3 1, 3) := by decide +kernel
theorem dX4_worn_47 : decode cX4_worn 47 = .ok (.goto (-40), 3) := by decide +kernel
theorem dX4_worn_50 : decode cX4_worn 50 = .ok (.iload_n 2, 1) := by decide +kernel
theorem dX4_worn_51 : decode cX4_worn 51 = .ok (.ireturn, 1) := by decide +kernel
theorem dX4_isWorked_0 : decode cX4_isWorked 0 = .ok (.iconst 0, 1) := by decide +kernel
theorem dX4_isWorked_1 : decode cX4_isWorked 1 = .ok (.istore_n 2, 1) := by decide +kernel
theorem dX4_isWorked_2 : decode cX4_isWorked 2 = .ok (.bipush 60, 2) := by decide +kernel
theorem dX4_isWorked_4 : decode cX4_isWorked 4 = .ok (.iload_n 1, 1) := by decide +kernel
theorem dX4_isWorked_5 : decode cX4_isWorked 5 = .ok (.imul, 1) := by decide +kernel
theorem dX4_isWorked_6 : decode cX4_isWorked 6 = .ok (.istore_n 3, 1) := by decide +kernel
theorem dX4_isWorked_7 : decode cX4_isWorked 7 = .ok (.iload_n 3, 1) := by decide +kernel
theorem dX4_isWorked_8 : decode cX4_isWorked 8 = .ok (.bipush 60, 2) := by decide +kernel
theorem dX4_isWorked_10 : decode cX4_isWorked 10 = .ok (.iload_n 1, 1) := by decide +kernel
theorem dX4_isWorked_11 : decode cX4_isWorked 11 = .ok (.imul, 1) := by decide +kernel
theorem dX4_isWorked_12 : decode cX4_isWorked 12 = .ok (.aload_n 0, 1) := by decide +kernel
theorem dX4_isWorked_13 : decode cX4_isWorked 13 = .ok (.getfield 53, 3) := by decide +kernel
theorem dX4_isWorked_16 : decode cX4_isWorked 16 = .ok (.iload_n 1, 1) := by decide +kernel
theorem dX4_isWorked_17 : decode cX4_isWorked 17 = .ok (.iaload, 1) := by decide +kernel
theorem dX4_isWorked_18 : decode cX4_isWorked 18 = .ok (.iadd, 1) := by decide +kernel
theorem dX4_isWorked_19 : decode cX4_isWorked 19 = .ok (.if_icmp .ge 26, 3) := by decide +kernel
theorem dX4_isWorked_22 : decode cX4_isWorked 22 = .ok (.iload_n 2, 1) := by decide +kernel
theorem dX4_isWorked_23 : decode cX4_isWorked 23 = .ok (.aload_n 0, 1) := by decide +kernel
theorem dX4_isWorked_24 : decode cX4_isWorked 24 = .ok (.getfield 69, 3) := by decide +kernel
theorem dX4_isWorked_27 : decode cX4_isWorked 27 = .ok (.iload_n 3, 1) := by decide +kernel
theorem dX4_isWorked_28 : decode cX4_isWorked 28 = .ok (.iaload, 1) := by decide +kernel
theorem dX4_isWorked_29 : decode cX4_isWorked 29 = .ok (.ifCond .eq 7, 3) := by decide +kernel
theorem dX4_isWorked_32 : decode cX4_isWorked 32 = .ok (.iconst 1, 1) := by decide +kernel
theorem dX4_isWorked_33 : decode cX4_isWorked 33 = .ok (.goto 4, 3) := by decide +kernel
theorem dX4_isWorked_36 : decode cX4_isWorked 36 = .ok (.iconst 0, 1) := by decide +kernel
theorem dX4_isWorked_37 : decode cX4_isWorked 37 = .ok (.ior, 1) := by decide +kernel
theorem dX4_isWorked_38 : decode cX4_isWorked 38 = .ok (.istore_n 2, 1) := by decide +kernel
theorem dX4_isWorked_39 : decode cX4_isWorked 39 = .ok (.iinc 3 1, 3) := by decide +kernel
theorem dX4_isWorked_42 : decode cX4_isWorked 42 = .ok (.goto (-35), 3) := by decide +kernel
theorem dX4_isWorked_45 : decode cX4_isWorked 45 = .ok (.iload_n 2, 1) := by decide +kernel
theorem dX4_isWorked_46 : decode cX4_isWorked 46 = .ok (.ireturn, 1) := by decide +kernel
theorem dX4_blank_0 : decode cX4_blank 0 = .ok (.iload_n 1, 1) := by decide +kernel
theorem dX4_blank_1 : decode cX4_blank 1 = .ok (.invokestatic 117, 3) := by decide +kernel
theorem dX4_blank_4 : decode cX4_blank 4 = .ok (.ifCond .eq 43, 3) := by decide +kernel
theorem dX4_blank_7 : decode cX4_blank 7 = .ok (.iload_n 2, 1) := by decide +kernel
theorem dX4_blank_8 : decode cX4_blank 8 = .ok (.bipush 50, 2) := by decide +kernel
theorem dX4_blank_10 : decode cX4_blank 10 = .ok (.sipush 200, 3) := by decide +kernel
theorem dX4_blank_13 : decode cX4_blank 13 = .ok (.invokestatic 94, 3) := by decide +kernel
theorem dX4_blank_16 : decode cX4_blank 16 = .ok (.ifCond .eq 31, 3) := by decide +kernel
theorem dX4_blank_19 : decode cX4_blank 19 = .ok (.iload_n 3, 1) := by decide +kernel
theorem dX4_blank_20 : decode cX4_blank 20 = .ok (.bipush 20, 2) := by decide +kernel
theorem dX4_blank_22 : decode cX4_blank 22 = .ok (.bipush 99, 2) := by decide +kernel
theorem dX4_blank_24 : decode cX4_blank 24 = .ok (.invokestatic 94, 3) := by decide +kernel
theorem dX4_blank_27 : decode cX4_blank 27 = .ok (.ifCond .eq 20, 3) := by decide +kernel
theorem dX4_blank_30 : decode cX4_blank 30 = .ok (.iload 4, 2) := by decide +kernel
theorem dX4_blank_32 : decode cX4_blank 32 = .ok (.bipush 40, 2) := by decide +kernel
theorem dX4_blank_34 : decode cX4_blank 34 = .ok (.sipush 140, 3) := by decide +kernel
theorem dX4_blank_37 : decode cX4_blank 37 = .ok (.invokestatic 94, 3) := by decide +kernel
theorem dX4_blank_40 : decode cX4_blank 40 = .ok (.ifCond .eq 7, 3) := by decide +kernel
theorem dX4_blank_43 : decode cX4_blank 43 = .ok (.iconst 1, 1) := by decide +kernel
theorem dX4_blank_44 : decode cX4_blank 44 = .ok (.goto 4, 3) := by decide +kernel
theorem dX4_blank_47 : decode cX4_blank 47 = .ok (.iconst 0, 1) := by decide +kernel
theorem dX4_blank_48 : decode cX4_blank 48 = .ok (.istore 5, 2) := by decide +kernel
theorem dX4_blank_50 : decode cX4_blank 50 = .ok (.aload_n 0, 1) := by decide +kernel
theorem dX4_blank_51 : decode cX4_blank 51 = .ok (.iload 5, 2) := by decide +kernel
theorem dX4_blank_53 : decode cX4_blank 53 = .ok (.ifCond .ne 7, 3) := by decide +kernel
theorem dX4_blank_56 : decode cX4_blank 56 = .ok (.iconst 1, 1) := by decide +kernel
theorem dX4_blank_57 : decode cX4_blank 57 = .ok (.goto 17, 3) := by decide +kernel
theorem dX4_blank_60 : decode cX4_blank 60 = .ok (.aload_n 0, 1) := by decide +kernel
theorem dX4_blank_61 : decode cX4_blank 61 = .ok (.getfield 91, 3) := by decide +kernel
theorem dX4_blank_64 : decode cX4_blank 64 = .ok (.bipush 8, 2) := by decide +kernel
theorem dX4_blank_66 : decode cX4_blank 66 = .ok (.if_icmp .ne 7, 3) := by decide +kernel
theorem dX4_blank_69 : decode cX4_blank 69 = .ok (.iconst 2, 1) := by decide +kernel
theorem dX4_blank_70 : decode cX4_blank 70 = .ok (.goto 4, 3) := by decide +kernel
theorem dX4_blank_73 : decode cX4_blank 73 = .ok (.iconst 0, 1) := by decide +kernel
theorem dX4_blank_74 : decode cX4_blank 74 = .ok (.invokevirtual 98, 3) := by decide +kernel
theorem dX4_blank_77 : decode cX4_blank 77 = .ok (.ifCond .eq 5, 3) := by decide +kernel
theorem dX4_blank_80 : decode cX4_blank 80 = .ok (.iconst 0, 1) := by decide +kernel
theorem dX4_blank_81 : decode cX4_blank 81 = .ok (.ireturn, 1) := by decide +kernel
theorem dX4_blank_82 : decode cX4_blank 82 = .ok (.aload_n 0, 1) := by decide +kernel
theorem dX4_blank_83 : decode cX4_blank 83 = .ok (.getfield 7, 3) := by decide +kernel
theorem dX4_blank_86 : decode cX4_blank 86 = .ok (.aload_n 0, 1) := by decide +kernel
theorem dX4_blank_87 : decode cX4_blank 87 = .ok (.getfield 91, 3) := by decide +kernel
theorem dX4_blank_90 : decode cX4_blank 90 = .ok (.iload_n 1, 1) := by decide +kernel
theorem dX4_blank_91 : decode cX4_blank 91 = .ok (.castore, 1) := by decide +kernel
theorem dX4_blank_92 : decode cX4_blank 92 = .ok (.aload_n 0, 1) := by decide +kernel
theorem dX4_blank_93 : decode cX4_blank 93 = .ok (.getfield 19, 3) := by decide +kernel
theorem dX4_blank_96 : decode cX4_blank 96 = .ok (.aload_n 0, 1) := by decide +kernel
theorem dX4_blank_97 : decode cX4_blank 97 = .ok (.getfield 91, 3) := by decide +kernel
theorem dX4_blank_100 : decode cX4_blank 100 = .ok (.iload_n 2, 1) := by decide +kernel
theorem dX4_blank_101 : decode cX4_blank 101 = .ok (.iastore, 1) := by decide +kernel
theorem dX4_blank_102 : decode cX4_blank 102 = .ok (.aload_n 0, 1) := by decide +kernel
theorem dX4_blank_103 : decode cX4_blank 103 = .ok (.getfield 23, 3) := by decide +kernel
theorem dX4_blank_106 : decode cX4_blank 106 = .ok (.aload_n 0, 1) := by decide +kernel
theorem dX4_blank_107 : decode cX4_blank 107 = .ok (.getfield 91, 3) := by decide +kernel
theorem dX4_blank_110 : decode cX4_blank 110 = .ok (.iload_n 3, 1) := by decide +kernel
theorem dX4_blank_111 : decode cX4_blank 111 = .ok (.iastore, 1) := by decide +kernel
theorem dX4_blank_112 : decode cX4_blank 112 = .ok (.aload_n 0, 1) := by decide +kernel
theorem dX4_blank_113 : decode cX4_blank 113 = .ok (.getfield 26, 3) := by decide +kernel
theorem dX4_blank_116 : decode cX4_blank 116 = .ok (.aload_n 0, 1) := by decide +kernel
theorem dX4_blank_117 : decode cX4_blank 117 = .ok (.getfield 91, 3) := by decide +kernel
theorem dX4_blank_120 : decode cX4_blank 120 = .ok (.iload 4, 2) := by decide +kernel
theorem dX4_blank_122 : decode cX4_blank 122 = .ok (.iastore, 1) := by decide +kernel
theorem dX4_blank_123 : decode cX4_blank 123 = .ok (.aload_n 0, 1) := by decide +kernel
theorem dX4_blank_124 : decode cX4_blank 124 = .ok (.getfield 13, 3) := by decide +kernel
theorem dX4_blank_127 : decode cX4_blank 127 = .ok (.aload_n 0, 1) := by decide +kernel
theorem dX4_blank_128 : decode cX4_blank 128 = .ok (.getfield 91, 3) := by decide +kernel
theorem dX4_blank_131 : decode cX4_blank 131 = .ok (.bipush 45, 2) := by decide +kernel
theorem dX4_blank_133 : decode cX4_blank 133 = .ok (.castore, 1) := by decide +kernel
theorem dX4_blank_134 : decode cX4_blank 134 = .ok (.aload_n 0, 1) := by decide +kernel
theorem dX4_blank_135 : decode cX4_blank 135 = .ok (.getfield 16, 3) := by decide +kernel
theorem dX4_blank_138 : decode cX4_blank 138 = .ok (.aload_n 0, 1) := by decide +kernel
theorem dX4_blank_139 : decode cX4_blank 139 = .ok (.getfield 91, 3) := by decide +kernel
theorem dX4_blank_142 : decode cX4_blank 142 = .ok (.bipush 115, 2) := by decide +kernel
theorem dX4_blank_144 : decode cX4_blank 144 = .ok (.castore, 1) := by decide +kernel
theorem dX4_blank_145 : decode cX4_blank 145 = .ok (.aload_n 0, 1) := by decide +kernel
theorem dX4_blank_146 : decode cX4_blank 146 = .ok (.dup, 1) := by decide +kernel
theorem dX4_blank_147 : decode cX4_blank 147 = .ok (.getfield 91, 3) := by decide +kernel
theorem dX4_blank_150 : decode cX4_blank 150 = .ok (.iconst 1, 1) := by decide +kernel
theorem dX4_blank_151 : decode cX4_blank 151 = .ok (.iadd, 1) := by decide +kernel
theorem dX4_blank_152 : decode cX4_blank 152 = .ok (.putfield 91, 3) := by decide +kernel
theorem dX4_blank_155 : decode cX4_blank 155 = .ok (.aload_n 0, 1) := by decide +kernel
theorem dX4_blank_156 : decode cX4_blank 156 = .ok (.getfield 91, 3) := by decide +kernel
theorem dX4_blank_159 : decode cX4_blank 159 = .ok (.iconst 1, 1) := by decide +kernel
theorem dX4_blank_160 : decode cX4_blank 160 = .ok (.isub, 1) := by decide +kernel
theorem dX4_blank_161 : decode cX4_blank 161 = .ok (.ireturn, 1) := by decide +kernel
theorem dX4_cut_0 : decode cX4_cut 0 = .ok (.aload_n 0, 1) := by decide +kernel
theorem dX4_cut_1 : decode cX4_cut 1 = .ok (.iload_n 1, 1) := by decide +kernel
theorem dX4_cut_2 : decode cX4_cut 2 = .ok (.invokevirtual 121, 3) := by decide +kernel
theorem dX4_cut_5 : decode cX4_cut 5 = .ok (.ifCond .eq 5, 3) := by decide +kernel
theorem dX4_cut_8 : decode cX4_cut 8 = .ok (.iconst 0, 1) := by decide +kernel
theorem dX4_cut_9 : decode cX4_cut 9 = .ok (.ireturn, 1) := by decide +kernel
theorem dX4_cut_10 : decode cX4_cut 10 = .ok (.aload_n 0, 1) := by decide +kernel
theorem dX4_cut_11 : decode cX4_cut 11 = .ok (.iload_n 2, 1) := by decide +kernel
theorem dX4_cut_12 : decode cX4_cut 12 = .ok (.invokestatic 124, 3) := by decide +kernel
theorem dX4_cut_15 : decode cX4_cut 15 = .ok (.ifCond .eq 12, 3) := by decide +kernel
theorem dX4_cut_18 : decode cX4_cut 18 = .ok (.iload_n 3, 1) := by decide +kernel
theorem dX4_cut_19 : decode cX4_cut 19 = .ok (.iconst 0, 1) := by decide +kernel
theorem dX4_cut_20 : decode cX4_cut 20 = .ok (.iconst 3, 1) := by decide +kernel
theorem dX4_cut_21 : decode cX4_cut 21 = .ok (.invokestatic 94, 3) := by decide +kernel
theorem dX4_cut_24 : decode cX4_cut 24 = .ok (.ifCond .ne 7, 3) := by decide +kernel
theorem dX4_cut_27 : decode cX4_cut 27 = .ok (.iconst 2, 1) := by decide +kernel
theorem dX4_cut_28 : decode cX4_cut 28 = .ok (.goto 50, 3) := by decide +kernel
theorem dX4_cut_31 : decode cX4_cut 31 = .ok (.aload_n 0, 1) := by decide +kernel
theorem dX4_cut_32 : decode cX4_cut 32 = .ok (.getfield 16, 3) := by decide +kernel
theorem dX4_cut_35 : decode cX4_cut 35 = .ok (.iload_n 1, 1) := by decide +kernel
theorem dX4_cut_36 : decode cX4_cut 36 = .ok (.caload, 1) := by decide +kernel
theorem dX4_cut_37 : decode cX4_cut 37 = .ok (.bipush 115, 2) := by decide +kernel
theorem dX4_cut_39 : decode cX4_cut 39 = .ok (.if_icmp .ne 34, 3) := by decide +kernel
theorem dX4_cut_42 : decode cX4_cut 42 = .ok (.aload_n 0, 1) := by decide +kernel
theorem dX4_cut_43 : decode cX4_cut 43 = .ok (.getfield 53, 3) := by decide +kernel
theorem dX4_cut_46 : decode cX4_cut 46 = .ok (.iload_n 1, 1) := by decide +kernel
theorem dX4_cut_47 : decode cX4_cut 47 = .ok (.iaload, 1) := by decide +kernel
theorem dX4_cut_48 : decode cX4_cut 48 = .ok (.ifCond .gt 25, 3) := by decide +kernel
theorem dX4_cut_51 : decode cX4_cut 51 = .ok (.aload_n 0, 1) := by decide +kernel
theorem dX4_cut_52 : decode cX4_cut 52 = .ok (.getfield 23, 3) := by decide +kernel
theorem dX4_cut_55 : decode cX4_cut 55 = .ok (.iload_n 1, 1) := by decide +kernel
theorem dX4_cut_56 : decode cX4_cut 56 = .ok (.iaload, 1) := by decide +kernel
theorem dX4_cut_57 : decode cX4_cut 57 = .ok (.aload_n 0, 1) := by decide +kernel
theorem dX4_cut_58 : decode cX4_cut 58 = .ok (.getfield 7, 3) := by decide +kernel
theorem dX4_cut_61 : decode cX4_cut 61 = .ok (.iload_n 1, 1) := by decide +kernel
theorem dX4_cut_62 : decode cX4_cut 62 = .ok (.caload, 1) := by decide +kernel
theorem dX4_cut_63 : decode cX4_cut 63 = .ok (.iload_n 2, 1) := by decide +kernel
theorem dX4_cut_64 : decode cX4_cut 64 = .ok (.invokestatic 102, 3) := by decide +kernel
theorem dX4_cut_67 : decode cX4_cut 67 = .ok (.bipush 10, 2) := by decide +kernel
theorem dX4_cut_69 : decode cX4_cut 69 = .ok (.iadd, 1) := by decide +kernel
theorem dX4_cut_70 : decode cX4_cut 70 = .ok (.if_icmp .ge 7, 3) := by decide +kernel
theorem dX4_cut_73 : decode cX4_cut 73 = .ok (.iconst 3, 1) := by decide +kernel
theorem dX4_cut_74 : decode cX4_cut 74 = .ok (.goto 4, 3) := by decide +kernel
theorem dX4_cut_77 : decode cX4_cut 77 = .ok (.iconst 0, 1) := by decide +kernel
theorem dX4_cut_78 : decode cX4_cut 78 = .ok (.invokevirtual 98, 3) := by decide +kernel
theorem dX4_cut_81 : decode cX4_cut 81 = .ok (.ifCond .eq 5, 3) := by decide +kernel
theorem dX4_cut_84 : decode cX4_cut 84 = .ok (.iconst 0, 1) := by decide +kernel
theorem dX4_cut_85 : decode cX4_cut 85 = .ok (.ireturn, 1) := by decide +kernel
theorem dX4_cut_86 : decode cX4_cut 86 = .ok (.aload_n 0, 1) := by decide +kernel
theorem dX4_cut_87 : decode cX4_cut 87 = .ok (.getfield 13, 3) := by decide +kernel
theorem dX4_cut_90 : decode cX4_cut 90 = .ok (.iload_n 1, 1) := by decide +kernel
theorem dX4_cut_91 : decode cX4_cut 91 = .ok (.iload_n 2, 1) := by decide +kernel
theorem dX4_cut_92 : decode cX4_cut 92 = .ok (.castore, 1) := by decide +kernel
theorem dX4_cut_93 : decode cX4_cut 93 = .ok (.aload_n 0, 1) := by decide +kernel
theorem dX4_cut_94 : decode cX4_cut 94 = .ok (.getfield 29, 3) := by decide +kernel
theorem dX4_cut_97 : decode cX4_cut 97 = .ok (.iload_n 1, 1) := by decide +kernel
theorem dX4_cut_98 : decode cX4_cut 98 = .ok (.iload_n 3, 1) := by decide +kernel
theorem dX4_cut_99 : decode cX4_cut 99 = .ok (.iastore, 1) := by decide +kernel
theorem dX4_cut_100 : decode cX4_cut 100 = .ok (.aload_n 0, 1) := by decide +kernel
theorem dX4_cut_101 : decode cX4_cut 101 = .ok (.getfield 53, 3) := by decide +kernel
theorem dX4_cut_104 : decode cX4_cut 104 = .ok (.iload_n 1, 1) := by decide +kernel
theorem dX4_cut_105 : decode cX4_cut 105 = .ok (.iaload, 1) := by decide +kernel
theorem dX4_cut_106 : decode cX4_cut 106 = .ok (.bipush 60, 2) := by decide +kernel
theorem dX4_cut_108 : decode cX4_cut 108 = .ok (.if_icmp .ge 74, 3) := by decide +kernel
theorem dX4_cut_111 : decode cX4_cut 111 = .ok (.aload_n 0, 1) := by decide +kernel
theorem dX4_cut_112 : decode cX4_cut 112 = .ok (.iload_n 1, 1) := by decide +kernel
theorem dX4_cut_113 : decode cX4_cut 113 = .ok (.aload_n 0, 1) := by decide +kernel
theorem dX4_cut_114 : decode cX4_cut 114 = .ok (.getfield 53, 3) := by decide +kernel
theorem dX4_cut_117 : decode cX4_cut 117 = .ok (.iload_n 1, 1) := by decide +kernel
theorem dX4_cut_118 : decode cX4_cut 118 = .ok (.iaload, 1) := by decide +kernel
theorem dX4_cut_119 : decode cX4_cut 119 = .ok (.invokevirtual 127, 3) := by decide +kernel
theorem dX4_cut_122 : decode cX4_cut 122 = .ok (.aload_n 0, 1) := by decide +kernel
theorem dX4_cut_123 : decode cX4_cut 123 = .ok (.getfield 19, 3) := by decide +kernel
theorem dX4_cut_126 : decode cX4_cut 126 = .ok (.iload_n 1, 1) := by decide +kernel
theorem dX4_cut_127 : decode cX4_cut 127 = .ok (.iaload, 1) := by decide +kernel
theorem dX4_cut_128 : decode cX4_cut 128 = .ok (.if_icmp .ge 54, 3) := by decide +kernel
theorem dX4_cut_131 : decode cX4_cut 131 = .ok (.aload_n 0, 1) := by decide +kernel
theorem dX4_cut_132 : decode cX4_cut 132 = .ok (.getfield 66, 3) := by decide +kernel
theorem dX4_cut_135 : decode cX4_cut 135 = .ok (.bipush 60, 2) := by decide +kernel
theorem dX4_cut_137 : decode cX4_cut 137 = .ok (.iload_n 1, 1) := by decide +kernel
theorem dX4_cut_138 : decode cX4_cut 138 = .ok (.imul, 1) := by decide +kernel
theorem dX4_cut_139 : decode cX4_cut 139 = .ok (.aload_n 0, 1) := by decide +kernel
theorem dX4_cut_140 : decode cX4_cut 140 = .ok (.getfield 53, 3) := by decide +kernel
theorem dX4_cut_143 : decode cX4_cut 143 = .ok (.iload_n 1, 1) := by decide +kernel
theorem dX4_cut_144 : decode cX4_cut 144 = .ok (.iaload, 1) := by decide +kernel
theorem dX4_cut_145 : decode cX4_cut 145 = .ok (.iadd, 1) := by decide +kernel
theorem dX4_cut_146 : decode cX4_cut 146 = .ok (.aload_n 0, 1) := by decide +kernel
theorem dX4_cut_147 : decode cX4_cut 147 = .ok (.iload_n 1, 1) := by decide +kernel
theorem dX4_cut_148 : decode cX4_cut 148 = .ok (.invokevirtual 110, 3) := by decide +kernel
theorem dX4_cut_151 : decode cX4_cut 151 = .ok (.iastore, 1) := by decide +kernel
theorem dX4_cut_152 : decode cX4_cut 152 = .ok (.aload_n 0, 1) := by decide +kernel
theorem dX4_cut_153 : decode cX4_cut 153 = .ok (.getfield 69, 3) := by decide +kernel
theorem dX4_cut_156 : decode cX4_cut 156 = .ok (.bipush 60, 2) := by decide +kernel
theorem dX4_cut_158 : decode cX4_cut 158 = .ok (.iload_n 1, 1) := by decide +kernel
theorem dX4_cut_159 : decode cX4_cut 159 = .ok (.imul, 1) := by decide +kernel
theorem dX4_cut_160 : decode cX4_cut 160 = .ok (.aload_n 0, 1) := by decide +kernel
theorem dX4_cut_161 : decode cX4_cut 161 = .ok (.getfield 53, 3) := by decide +kernel
theorem dX4_cut_164 : decode cX4_cut 164 = .ok (.iload_n 1, 1) := by decide +kernel
theorem dX4_cut_165 : decode cX4_cut 165 = .ok (.iaload, 1) := by decide +kernel
theorem dX4_cut_166 : decode cX4_cut 166 = .ok (.iadd, 1) := by decide +kernel
theorem dX4_cut_167 : decode cX4_cut 167 = .ok (.iconst 0, 1) := by decide +kernel
theorem dX4_cut_168 : decode cX4_cut 168 = .ok (.iastore, 1) := by decide +kernel
theorem dX4_cut_169 : decode cX4_cut 169 = .ok (.aload_n 0, 1) := by decide +kernel
theorem dX4_cut_170 : decode cX4_cut 170 = .ok (.getfield 53, 3) := by decide +kernel
theorem dX4_cut_173 : decode cX4_cut 173 = .ok (.iload_n 1, 1) := by decide +kernel
theorem dX4_cut_174 : decode cX4_cut 174 = .ok (.dup2, 1) := by decide +kernel
theorem dX4_cut_175 : decode cX4_cut 175 = .ok (.iaload, 1) := by decide +kernel
theorem dX4_cut_176 : decode cX4_cut 176 = .ok (.iconst 1, 1) := by decide +kernel
theorem dX4_cut_177 : decode cX4_cut 177 = .ok (.iadd, 1) := by decide +kernel
theorem dX4_cut_178 : decode cX4_cut 178 = .ok (.iastore, 1) := by decide +kernel
theorem dX4_cut_179 : decode cX4_cut 179 = .ok (.goto (-79), 3) := by decide +kernel
theorem dX4_cut_182 : decode cX4_cut 182 = .ok (.aload_n 0, 1) := by decide +kernel
theorem dX4_cut_183 : decode cX4_cut 183 = .ok (.getfield 53, 3) := by decide +kernel
theorem dX4_cut_186 : decode cX4_cut 186 = .ok (.iload_n 1, 1) := by decide +kernel
theorem dX4_cut_187 : decode cX4_cut 187 = .ok (.iaload, 1) := by decide +kernel
theorem dX4_cut_188 : decode cX4_cut 188 = .ok (.ireturn, 1) := by decide +kernel
theorem dX4_upcut_0 : decode cX4_upcut 0 = .ok (.aload_n 0, 1) := by decide +kernel
theorem dX4_upcut_1 : decode cX4_upcut 1 = .ok (.iload_n 1, 1) := by decide +kernel
theorem dX4_upcut_2 : decode cX4_upcut 2 = .ok (.invokevirtual 121, 3) := by decide +kernel
theorem dX4_upcut_5 : decode cX4_upcut 5 = .ok (.ifCond .eq 5, 3) := by decide +kernel
theorem dX4_upcut_8 : decode cX4_upcut 8 = .ok (.iconst 0, 1) := by decide +kernel
theorem dX4_upcut_9 : decode cX4_upcut 9 = .ok (.ireturn, 1) := by decide +kernel
theorem dX4_upcut_10 : decode cX4_upcut 10 = .ok (.aload_n 0, 1) := by decide +kernel
theorem dX4_upcut_11 : decode cX4_upcut 11 = .ok (.aload_n 0, 1) := by decide +kernel
theorem dX4_upcut_12 : decode cX4_upcut 12 = .ok (.getfield 7, 3) := by decide +kernel
theorem dX4_upcut_15 : decode cX4_upcut 15 = .ok (.iload_n 1, 1) := by decide +kernel
theorem dX4_upcut_16 : decode cX4_upcut 16 = .ok (.caload, 1) := by decide +kernel
theorem dX4_upcut_17 : decode cX4_upcut 17 = .ok (.bipush 115, 2) := by decide +kernel
theorem dX4_upcut_19 : decode cX4_upcut 19 = .ok (.if_icmp .eq 32, 3) := by decide +kernel
theorem dX4_upcut_22 : decode cX4_upcut 22 = .ok (.aload_n 0, 1) := by decide +kernel
theorem dX4_upcut_23 : decode cX4_upcut 23 = .ok (.getfield 16, 3) := by decide +kernel
theorem dX4_upcut_26 : decode cX4_upcut 26 = .ok (.iload_n 1, 1) := by decide +kernel
theorem dX4_upcut_27 : decode cX4_upcut 27 = .ok (.caload, 1) := by decide +kernel
theorem dX4_upcut_28 : decode cX4_upcut 28 = .ok (.bipush 115, 2) := by decide +kernel
theorem dX4_upcut_30 : decode cX4_upcut 30 = .ok (.if_icmp .ne 21, 3) := by decide +kernel
theorem dX4_upcut_33 : decode cX4_upcut 33 = .ok (.aload_n 0, 1) := by decide +kernel
theorem dX4_upcut_34 : decode cX4_upcut 34 = .ok (.getfield 53, 3) := by decide +kernel
theorem dX4_upcut_37 : decode cX4_upcut 37 = .ok (.iload_n 1, 1) := by decide +kernel
theorem dX4_upcut_38 : decode cX4_upcut 38 = .ok (.iaload, 1) := by decide +kernel
theorem dX4_upcut_39 : decode cX4_upcut 39 = .ok (.ifCond .eq 12, 3) := by decide +kernel
theorem dX4_upcut_42 : decode cX4_upcut 42 = .ok (.aload_n 0, 1) := by decide +kernel
theorem dX4_upcut_43 : decode cX4_upcut 43 = .ok (.getfield 56, 3) := by decide +kernel
theorem dX4_upcut_46 : decode cX4_upcut 46 = .ok (.iload_n 1, 1) := by decide +kernel
theorem dX4_upcut_47 : decode cX4_upcut 47 = .ok (.baload, 1) := by decide +kernel
theorem dX4_upcut_48 : decode cX4_upcut 48 = .ok (.ifCond .eq 7, 3) := by decide +kernel
theorem dX4_upcut_51 : decode cX4_upcut 51 = .ok (.iconst 2, 1) := by decide +kernel
theorem dX4_upcut_52 : decode cX4_upcut 52 = .ok (.goto 4, 3) := by decide +kernel
theorem dX4_upcut_55 : decode cX4_upcut 55 = .ok (.iconst 0, 1) := by decide +kernel
theorem dX4_upcut_56 : decode cX4_upcut 56 = .ok (.invokevirtual 98, 3) := by decide +kernel
theorem dX4_upcut_59 : decode cX4_upcut 59 = .ok (.ifCond .eq 5, 3) := by decide +kernel
theorem dX4_upcut_62 : decode cX4_upcut 62 = .ok (.iconst 0, 1) := by decide +kernel
theorem dX4_upcut_63 : decode cX4_upcut 63 = .ok (.ireturn, 1) := by decide +kernel
theorem dX4_upcut_64 : decode cX4_upcut 64 = .ok (.aload_n 0, 1) := by decide +kernel
theorem dX4_upcut_65 : decode cX4_upcut 65 = .ok (.getfield 56, 3) := by decide +kernel
theorem dX4_upcut_68 : decode cX4_upcut 68 = .ok (.iload_n 1, 1) := by decide +kernel
theorem dX4_upcut_69 : decode cX4_upcut 69 = .ok (.iconst 1, 1) := by decide +kernel
theorem dX4_upcut_70 : decode cX4_upcut 70 = .ok (.bastore, 1) := by decide +kernel
theorem dX4_upcut_71 : decode cX4_upcut 71 = .ok (.iconst 0, 1) := by decide +kernel
theorem dX4_upcut_72 : decode cX4_upcut 72 = .ok (.istore_n 2, 1) := by decide +kernel
theorem dX4_upcut_73 : decode cX4_upcut 73 = .ok (.bipush 60, 2) := by decide +kernel
theorem dX4_upcut_75 : decode cX4_upcut 75 = .ok (.iload_n 1, 1) := by decide +kernel
theorem dX4_upcut_76 : decode cX4_upcut 76 = .ok (.imul, 1) := by decide +kernel
theorem dX4_upcut_77 : decode cX4_upcut 77 = .ok (.istore_n 3, 1) := by decide +kernel
theorem dX4_upcut_78 : decode cX4_upcut 78 = .ok (.iload_n 3, 1) := by decide +kernel
theorem dX4_upcut_79 : decode cX4_upcut 79 = .ok (.bipush 60, 2) := by decide +kernel
theorem dX4_upcut_81 : decode cX4_upcut 81 = .ok (.iload_n 1, 1) := by decide +kernel
theorem dX4_upcut_82 : decode cX4_upcut 82 = .ok (.imul, 1) := by decide +kernel
theorem dX4_upcut_83 : decode cX4_upcut 83 = .ok (.aload_n 0, 1) := by decide +kernel
theorem dX4_upcut_84 : decode cX4_upcut 84 = .ok (.getfield 53, 3) := by decide +kernel
theorem dX4_upcut_87 : decode cX4_upcut 87 = .ok (.iload_n 1, 1) := by decide +kernel
theorem dX4_upcut_88 : decode cX4_upcut 88 = .ok (.iaload, 1) := by decide +kernel
theorem dX4_upcut_89 : decode cX4_upcut 89 = .ok (.iadd, 1) := by decide +kernel
theorem dX4_upcut_90 : decode cX4_upcut 90 = .ok (.if_icmp .ge 38, 3) := by decide +kernel
theorem dX4_upcut_93 : decode cX4_upcut 93 = .ok (.aload_n 0, 1) := by decide +kernel
theorem dX4_upcut_94 : decode cX4_upcut 94 = .ok (.getfield 66, 3) := by decide +kernel
theorem dX4_upcut_97 : decode cX4_upcut 97 = .ok (.iload_n 3, 1) := by decide +kernel
theorem dX4_upcut_98 : decode cX4_upcut 98 = .ok (.iconst 0, 1) := by decide +kernel
theorem dX4_upcut_99 : decode cX4_upcut 99 = .ok (.aload_n 0, 1) := by decide +kernel
theorem dX4_upcut_100 : decode cX4_upcut 100 = .ok (.getfield 66, 3) := by decide +kernel
theorem dX4_upcut_103 : decode cX4_upcut 103 = .ok (.iload_n 3, 1) := by decide +kernel
theorem dX4_upcut_104 : decode cX4_upcut 104 = .ok (.iaload, 1) := by decide +kernel
theorem dX4_upcut_105 : decode cX4_upcut 105 = .ok (.iconst 1, 1) := by decide +kernel
theorem dX4_upcut_106 : decode cX4_upcut 106 = .ok (.isub, 1) := by decide +kernel
theorem dX4_upcut_107 : decode cX4_upcut 107 = .ok (.invokestatic 131, 3) := by decide +kernel
theorem dX4_upcut_110 : decode cX4_upcut 110 = .ok (.iastore, 1) := by decide +kernel
theorem dX4_upcut_111 : decode cX4_upcut 111 = .ok (.iload_n 2, 1) := by decide +kernel
theorem dX4_upcut_112 : decode cX4_upcut 112 = .ok (.aload_n 0, 1) := by decide +kernel
theorem dX4_upcut_113 : decode cX4_upcut 113 = .ok (.getfield 66, 3) := by decide +kernel
theorem dX4_upcut_116 : decode cX4_upcut 116 = .ok (.iload_n 3, 1) := by decide +kernel
theorem dX4_upcut_117 : decode cX4_upcut 117 = .ok (.iaload, 1) := by decide +kernel
theorem dX4_upcut_118 : decode cX4_upcut 118 = .ok (.invokestatic 131, 3) := by decide +kernel
theorem dX4_upcut_121 : decode cX4_upcut 121 = .ok (.istore_n 2, 1) := by decide +kernel
theorem dX4_upcut_122 : decode cX4_upcut 122 = .ok (.iinc 3 1, 3) := by decide +kernel
theorem dX4_upcut_125 : decode cX4_upcut 125 = .ok (.goto (-47), 3) := by decide +kernel
theorem dX4_upcut_128 : decode cX4_upcut 128 = .ok (.iload_n 2, 1) := by decide +kernel
theorem dX4_upcut_129 : decode cX4_upcut 129 = .ok (.ireturn, 1) := by decide +kernel
theorem dX4_teeth_0 : decode cX4_teeth 0 = .ok (.aload_n 0, 1) := by decide +kernel
theorem dX4_teeth_1 : decode cX4_teeth 1 = .ok (.iload_n 1, 1) := by decide +kernel
theorem dX4_teeth_2 : decode cX4_teeth 2 = .ok (.invokevirtual 121, 3) := by decide +kernel
theorem dX4_teeth_5 : decode cX4_teeth 5 = .ok (.ifCond .eq 7, 3) := by decide +kernel
theorem dX4_teeth_8 : decode cX4_teeth 8 = .ok (.iconst 0, 1) := by decide +kernel
theorem dX4_teeth_9 : decode cX4_teeth 9 = .ok (.goto 9, 3) := by decide +kernel
theorem dX4_teeth_12 : decode cX4_teeth 12 = .ok (.aload_n 0, 1) := by decide +kernel
theorem dX4_teeth_13 : decode cX4_teeth 13 = .ok (.getfield 53, 3) := by decide +kernel
theorem dX4_teeth_16 : decode cX4_teeth 16 = .ok (.iload_n 1, 1) := by decide +kernel
theorem dX4_teeth_17 : decode cX4_teeth 17 = .ok (.iaload, 1) := by decide +kernel
theorem dX4_teeth_18 : decode cX4_teeth 18 = .ok (.ireturn, 1) := by decide +kernel
theorem dX4_isNoTooth_0 : decode cX4_isNoTooth 0 = .ok (.aload_n 0, 1) := by decide +kernel
theorem dX4_isNoTooth_1 : decode cX4_isNoTooth 1 = .ok (.iload_n 1, 1) := by decide +kernel
theorem dX4_isNoTooth_2 : decode cX4_isNoTooth 2 = .ok (.invokevirtual 121, 3) := by decide +kernel
theorem dX4_isNoTooth_5 : decode cX4_isNoTooth 5 = .ok (.ifCond .ne 31, 3) := by decide +kernel
theorem dX4_isNoTooth_8 : decode cX4_isNoTooth 8 = .ok (.aload_n 0, 1) := by decide +kernel
theorem dX4_isNoTooth_9 : decode cX4_isNoTooth 9 = .ok (.iload_n 2, 1) := by decide +kernel
theorem dX4_isNoTooth_10 : decode cX4_isNoTooth 10 = .ok (.iconst 0, 1) := by decide +kernel
theorem dX4_isNoTooth_11 : decode cX4_isNoTooth 11 = .ok (.aload_n 0, 1) := by decide +kernel
theorem dX4_isNoTooth_12 : decode cX4_isNoTooth 12 = .ok (.getfield 53, 3) := by decide +kernel
theorem dX4_isNoTooth_15 : decode cX4_isNoTooth 15 = .ok (.iload_n 1, 1) := by decide +kernel
theorem dX4_isNoTooth_16 : decode cX4_isNoTooth 16 = .ok (.iaload, 1) := by decide +kernel
theorem dX4_isNoTooth_17 : decode cX4_isNoTooth 17 = .ok (.iconst 1, 1) := by decide +kernel
theorem dX4_isNoTooth_18 : decode cX4_isNoTooth 18 = .ok (.isub, 1) := by decide +kernel
theorem dX4_isNoTooth_19 : decode cX4_isNoTooth 19 = .ok (.invokestatic 94, 3) := by decide +kernel
theorem dX4_isNoTooth_22 : decode cX4_isNoTooth 22 = .ok (.ifCond .eq 7, 3) := by decide +kernel
theorem dX4_isNoTooth_25 : decode cX4_isNoTooth 25 = .ok (.iconst 0, 1) := by decide +kernel
theorem dX4_isNoTooth_26 : decode cX4_isNoTooth 26 = .ok (.goto 4, 3) := by decide +kernel
theorem dX4_isNoTooth_29 : decode cX4_isNoTooth 29 = .ok (.iconst 2, 1) := by decide +kernel
theorem dX4_isNoTooth_30 : decode cX4_isNoTooth 30 = .ok (.invokevirtual 98, 3) := by decide +kernel
theorem dX4_isNoTooth_33 : decode cX4_isNoTooth 33 = .ok (.ifCond .eq 7, 3) := by decide +kernel
theorem dX4_isNoTooth_36 : decode cX4_isNoTooth 36 = .ok (.iconst 1, 1) := by decide +kernel
theorem dX4_isNoTooth_37 : decode cX4_isNoTooth 37 = .ok (.goto 4, 3) := by decide +kernel
theorem dX4_isNoTooth_40 : decode cX4_isNoTooth 40 = .ok (.iconst 0, 1) := by decide +kernel
theorem dX4_isNoTooth_41 : decode cX4_isNoTooth 41 = .ok (.ireturn, 1) := by decide +kernel
theorem dX4_place_0 : decode cX4_place 0 = .ok (.aload_n 0, 1) := by decide +kernel
theorem dX4_place_1 : decode cX4_place 1 = .ok (.iload_n 1, 1) := by decide +kernel
theorem dX4_place_2 : decode cX4_place 2 = .ok (.iload_n 2, 1) := by decide +kernel
theorem dX4_place_3 : decode cX4_place 3 = .ok (.invokevirtual 134, 3) := by decide +kernel
theorem dX4_place_6 : decode cX4_place 6 = .ok (.ifCond .eq 7, 3) := by decide +kernel
theorem dX4_place_9 : decode cX4_place 9 = .ok (.iconst 0, 1) := by decide +kernel
theorem dX4_place_10 : decode cX4_place 10 = .ok (.goto 9, 3) := by decide +kernel
theorem dX4_place_13 : decode cX4_place 13 = .ok (.aload_n 0, 1) := by decide +kernel
theorem dX4_place_14 : decode cX4_place 14 = .ok (.iload_n 1, 1) := by decide +kernel
theorem dX4_place_15 : decode cX4_place 15 = .ok (.iload_n 2, 1) := by decide +kernel
theorem dX4_place_16 : decode cX4_place 16 = .ok (.invokevirtual 127, 3) := by decide +kernel
theorem dX4_place_19 : decode cX4_place 19 = .ok (.ireturn, 1) := by decide +kernel
theorem dX4_height_0 : decode cX4_height 0 = .ok (.aload_n 0, 1) := by decide +kernel
theorem dX4_height_1 : decode cX4_height 1 = .ok (.iload_n 1, 1) := by decide +kernel
theorem dX4_height_2 : decode cX4_height 2 = .ok (.iload_n 2, 1) := by decide +kernel
theorem dX4_height_3 : decode cX4_height 3 = .ok (.invokevirtual 134, 3) := by decide +kernel
theorem dX4_height_6 : decode cX4_height 6 = .ok (.ifCond .eq 7, 3) := by decide +kernel
theorem dX4_height_9 : decode cX4_height 9 = .ok (.iconst 0, 1) := by decide +kernel
theorem dX4_height_10 : decode cX4_height 10 = .ok (.goto 14, 3) := by decide +kernel
theorem dX4_height_13 : decode cX4_height 13 = .ok (.aload_n 0, 1) := by decide +kernel
theorem dX4_height_14 : decode cX4_height 14 = .ok (.getfield 66, 3) := by decide +kernel
theorem dX4_height_17 : decode cX4_height 17 = .ok (.bipush 60, 2) := by decide +kernel
theorem dX4_height_19 : decode cX4_height 19 = .ok (.iload_n 1, 1) := by decide +kernel
theorem dX4_height_20 : decode cX4_height 20 = .ok (.imul, 1) := by decide +kernel
theorem dX4_height_21 : decode cX4_height 21 = .ok (.iload_n 2, 1) := by decide +kernel
theorem dX4_height_22 : decode cX4_height 22 = .ok (.iadd, 1) := by decide +kernel
theorem dX4_height_23 : decode cX4_height 23 = .ok (.iaload, 1) := by decide +kernel
theorem dX4_height_24 : decode cX4_height 24 = .ok (.ireturn, 1) := by decide +kernel
theorem dX4_wear_0 : decode cX4_wear 0 = .ok (.aload_n 0, 1) := by decide +kernel
theorem dX4_wear_1 : decode cX4_wear 1 = .ok (.iload_n 1, 1) := by decide +kernel
theorem dX4_wear_2 : decode cX4_wear 2 = .ok (.iload_n 2, 1) := by decide +kernel
theorem dX4_wear_3 : decode cX4_wear 3 = .ok (.invokevirtual 134, 3) := by decide +kernel
theorem dX4_wear_6 : decode cX4_wear 6 = .ok (.ifCond .eq 7, 3) := by decide +kernel
theorem dX4_wear_9 : decode cX4_wear 9 = .ok (.iconst 0, 1) := by decide +kernel
theorem dX4_wear_10 : decode cX4_wear 10 = .ok (.goto 14, 3) := by decide +kernel
theorem dX4_wear_13 : decode cX4_wear 13 = .ok (.aload_n 0, 1) := by decide +kernel
theorem dX4_wear_14 : decode cX4_wear 14 = .ok (.getfield 69, 3) := by decide +kernel
theorem dX4_wear_17 : decode cX4_wear 17 = .ok (.bipush 60, 2) := by decide +kernel
theorem dX4_wear_19 : decode cX4_wear 19 = .ok (.iload_n 1, 1) := by decide +kernel
theorem dX4_wear_20 : decode cX4_wear 20 = .ok (.imul, 1) := by decide +kernel
theorem dX4_wear_21 : decode cX4_wear 21 = .ok (.iload_n 2, 1) := by decide +kernel
theorem dX4_wear_22 : decode cX4_wear 22 = .ok (.iadd, 1) := by decide +kernel
theorem dX4_wear_23 : decode cX4_wear 23 = .ok (.iaload, 1) := by decide +kernel
theorem dX4_wear_24 : decode cX4_wear 24 = .ok (.ireturn, 1) := by decide +kernel
theorem dX4_sings_0 : decode cX4_sings 0 = .ok (.aload_n 0, 1) := by decide +kernel
theorem dX4_sings_1 : decode cX4_sings 1 = .ok (.iload_n 1, 1) := by decide +kernel
theorem dX4_sings_2 : decode cX4_sings 2 = .ok (.invokevirtual 121, 3) := by decide +kernel
theorem dX4_sings_5 : decode cX4_sings 5 = .ok (.ifCond .ne 15, 3) := by decide +kernel
theorem dX4_sings_8 : decode cX4_sings 8 = .ok (.aload_n 0, 1) := by decide +kernel
theorem dX4_sings_9 : decode cX4_sings 9 = .ok (.iload_n 1, 1) := by decide +kernel
theorem dX4_sings_10 : decode cX4_sings 10 = .ok (.invokevirtual 138, 3) := by decide +kernel
theorem dX4_sings_13 : decode cX4_sings 13 = .ok (.ifCond .eq 7, 3) := by decide +kernel
theorem dX4_sings_16 : decode cX4_sings 16 = .ok (.iconst 1, 1) := by decide +kernel
theorem dX4_sings_17 : decode cX4_sings 17 = .ok (.goto 4, 3) := by decide +kernel
theorem dX4_sings_20 : decode cX4_sings 20 = .ok (.iconst 0, 1) := by decide +kernel
theorem dX4_sings_21 : decode cX4_sings 21 = .ok (.ireturn, 1) := by decide +kernel
theorem dX4_set_0 : decode cX4_set 0 = .ok (.aload_n 0, 1) := by decide +kernel
theorem dX4_set_1 : decode cX4_set 1 = .ok (.iload_n 1, 1) := by decide +kernel
theorem dX4_set_2 : decode cX4_set 2 = .ok (.invokevirtual 121, 3) := by decide +kernel
theorem dX4_set_5 : decode cX4_set 5 = .ok (.ifCond .eq 5, 3) := by decide +kernel
theorem dX4_set_8 : decode cX4_set 8 = .ok (.iconst 0, 1) := by decide +kernel
theorem dX4_set_9 : decode cX4_set 9 = .ok (.ireturn, 1) := by decide +kernel
theorem dX4_set_10 : decode cX4_set 10 = .ok (.aload_n 0, 1) := by decide +kernel
theorem dX4_set_11 : decode cX4_set 11 = .ok (.iload_n 2, 1) := by decide +kernel
theorem dX4_set_12 : decode cX4_set 12 = .ok (.iconst 0, 1) := by decide +kernel
theorem dX4_set_13 : decode cX4_set 13 = .ok (.bipush 9, 2) := by decide +kernel
theorem dX4_set_15 : decode cX4_set 15 = .ok (.invokestatic 94, 3) := by decide +kernel
theorem dX4_set_18 : decode cX4_set 18 = .ok (.ifCond .ne 7, 3) := by decide +kernel
theorem dX4_set_21 : decode cX4_set 21 = .ok (.iconst 2, 1) := by decide +kernel
theorem dX4_set_22 : decode cX4_set 22 = .ok (.goto 39, 3) := by decide +kernel
theorem dX4_set_25 : decode cX4_set 25 = .ok (.aload_n 0, 1) := by decide +kernel
theorem dX4_set_26 : decode cX4_set 26 = .ok (.getfield 7, 3) := by decide +kernel
theorem dX4_set_29 : decode cX4_set 29 = .ok (.iload_n 1, 1) := by decide +kernel
theorem dX4_set_30 : decode cX4_set 30 = .ok (.caload, 1) := by decide +kernel
theorem dX4_set_31 : decode cX4_set 31 = .ok (.bipush 115, 2) := by decide +kernel
theorem dX4_set_33 : decode cX4_set 33 = .ok (.if_icmp .ne 23, 3) := by decide +kernel
theorem dX4_set_36 : decode cX4_set 36 = .ok (.aload_n 0, 1) := by decide +kernel
theorem dX4_set_37 : decode cX4_set 37 = .ok (.getfield 53, 3) := by decide +kernel
theorem dX4_set_40 : decode cX4_set 40 = .ok (.iload_n 1, 1) := by decide +kernel
theorem dX4_set_41 : decode cX4_set 41 = .ok (.iaload, 1) := by decide +kernel
theorem dX4_set_42 : decode cX4_set 42 = .ok (.ifCond .eq 14, 3) := by decide +kernel
theorem dX4_set_45 : decode cX4_set 45 = .ok (.aload_n 0, 1) := by decide +kernel
theorem dX4_set_46 : decode cX4_set 46 = .ok (.getfield 16, 3) := by decide +kernel
theorem dX4_set_49 : decode cX4_set 49 = .ok (.iload_n 1, 1) := by decide +kernel
theorem dX4_set_50 : decode cX4_set 50 = .ok (.caload, 1) := by decide +kernel
theorem dX4_set_51 : decode cX4_set 51 = .ok (.bipush 99, 2) := by decide +kernel
theorem dX4_set_53 : decode cX4_set 53 = .ok (.if_icmp .ne 7, 3) := by decide +kernel
theorem dX4_set_56 : decode cX4_set 56 = .ok (.iconst 3, 1) := by decide +kernel
theorem dX4_set_57 : decode cX4_set 57 = .ok (.goto 4, 3) := by decide +kernel
theorem dX4_set_60 : decode cX4_set 60 = .ok (.iconst 0, 1) := by decide +kernel
theorem dX4_set_61 : decode cX4_set 61 = .ok (.invokevirtual 98, 3) := by decide +kernel
theorem dX4_set_64 : decode cX4_set 64 = .ok (.ifCond .eq 5, 3) := by decide +kernel
theorem dX4_set_67 : decode cX4_set 67 = .ok (.iconst 0, 1) := by decide +kernel
theorem dX4_set_68 : decode cX4_set 68 = .ok (.ireturn, 1) := by decide +kernel
theorem dX4_set_69 : decode cX4_set 69 = .ok (.aload_n 0, 1) := by decide +kernel
theorem dX4_set_70 : decode cX4_set 70 = .ok (.getfield 32, 3) := by decide +kernel
theorem dX4_set_73 : decode cX4_set 73 = .ok (.iload_n 1, 1) := by decide +kernel
theorem dX4_set_74 : decode cX4_set 74 = .ok (.iaload, 1) := by decide +kernel
theorem dX4_set_75 : decode cX4_set 75 = .ok (.istore_n 3, 1) := by decide +kernel
theorem dX4_set_76 : decode cX4_set 76 = .ok (.aload_n 0, 1) := by decide +kernel
theorem dX4_set_77 : decode cX4_set 77 = .ok (.getfield 32, 3) := by decide +kernel
theorem dX4_set_80 : decode cX4_set 80 = .ok (.iload_n 1, 1) := by decide +kernel
theorem dX4_set_81 : decode cX4_set 81 = .ok (.iload_n 2, 1) := by decide +kernel
theorem dX4_set_82 : decode cX4_set 82 = .ok (.iastore, 1) := by decide +kernel
theorem dX4_set_83 : decode cX4_set 83 = .ok (.aload_n 0, 1) := by decide +kernel
theorem dX4_set_84 : decode cX4_set 84 = .ok (.getfield 60, 3) := by decide +kernel
theorem dX4_set_87 : decode cX4_set 87 = .ok (.iload_n 1, 1) := by decide +kernel
theorem dX4_set_88 : decode cX4_set 88 = .ok (.iconst 0, 1) := by decide +kernel
theorem dX4_set_89 : decode cX4_set 89 = .ok (.bastore, 1) := by decide +kernel
theorem dX4_set_90 : decode cX4_set 90 = .ok (.iload_n 3, 1) := by decide +kernel
theorem dX4_set_91 : decode cX4_set 91 = .ok (.ireturn, 1) := by decide +kernel
theorem dX4_kerf_0 : decode cX4_kerf 0 = .ok (.aload_n 0, 1) := by decide +kernel
theorem dX4_kerf_1 : decode cX4_kerf 1 = .ok (.iload_n 1, 1) := by decide +kernel
theorem dX4_kerf_2 : decode cX4_kerf 2 = .ok (.invokevirtual 121, 3) := by decide +kernel
theorem dX4_kerf_5 : decode cX4_kerf 5 = .ok (.ifCond .eq 7, 3) := by decide +kernel
theorem dX4_kerf_8 : decode cX4_kerf 8 = .ok (.iconst 0, 1) := by decide +kernel
theorem dX4_kerf_9 : decode cX4_kerf 9 = .ok (.goto 18, 3) := by decide +kernel
theorem dX4_kerf_12 : decode cX4_kerf 12 = .ok (.aload_n 0, 1) := by decide +kernel
theorem dX4_kerf_13 : decode cX4_kerf 13 = .ok (.getfield 23, 3) := by decide +kernel
theorem dX4_kerf_16 : decode cX4_kerf 16 = .ok (.iload_n 1, 1) := by decide +kernel
theorem dX4_kerf_17 : decode cX4_kerf 17 = .ok (.iaload, 1) := by decide +kernel
theorem dX4_kerf_18 : decode cX4_kerf 18 = .ok (.iconst 2, 1) := by decide +kernel
theorem dX4_kerf_19 : decode cX4_kerf 19 = .ok (.aload_n 0, 1) := by decide +kernel
theorem dX4_kerf_20 : decode cX4_kerf 20 = .ok (.getfield 32, 3) := by decide +kernel
theorem dX4_kerf_23 : decode cX4_kerf 23 = .ok (.iload_n 1, 1) := by decide +kernel
theorem dX4_kerf_24 : decode cX4_kerf 24 = .ok (.iaload, 1) := by decide +kernel
theorem dX4_kerf_25 : decode cX4_kerf 25 = .ok (.imul, 1) := by decide +kernel
theorem dX4_kerf_26 : decode cX4_kerf 26 = .ok (.iadd, 1) := by decide +kernel
theorem dX4_kerf_27 : decode cX4_kerf 27 = .ok (.ireturn, 1) := by decide +kernel
theorem dX4_gullets_0 : decode cX4_gullets 0 = .ok (.aload_n 0, 1) := by decide +kernel
theorem dX4_gullets_1 : decode cX4_gullets 1 = .ok (.iload_n 1, 1) := by decide +kernel
theorem dX4_gullets_2 : decode cX4_gullets 2 = .ok (.invokevirtual 121, 3) := by decide +kernel
theorem dX4_gullets_5 : decode cX4_gullets 5 = .ok (.ifCond .eq 7, 3) := by decide +kernel
theorem dX4_gullets_8 : decode cX4_gullets 8 = .ok (.iconst 0, 1) := by decide +kernel
theorem dX4_gullets_9 : decode cX4_gullets 9 = .ok (.goto 8, 3) := by decide +kernel
theorem dX4_gullets_12 : decode cX4_gullets 12 = .ok (.aload_n 0, 1) := by decide +kernel
theorem dX4_gullets_13 : decode cX4_gullets 13 = .ok (.iload_n 1, 1) := by decide +kernel
theorem dX4_gullets_14 : decode cX4_gullets 14 = .ok (.invokevirtual 141, 3) := by decide +kernel
theorem dX4_gullets_17 : decode cX4_gullets 17 = .ok (.ireturn, 1) := by decide +kernel
theorem dX4_thickness_0 : decode cX4_thickness 0 = .ok (.aload_n 0, 1) := by decide +kernel
theorem dX4_thickness_1 : decode cX4_thickness 1 = .ok (.iload_n 1, 1) := by decide +kernel
theorem dX4_thickness_2 : decode cX4_thickness 2 = .ok (.invokevirtual 121, 3) := by decide +kernel
theorem dX4_thickness_5 : decode cX4_thickness 5 = .ok (.ifCond .eq 7, 3) := by decide +kernel
theorem dX4_thickness_8 : decode cX4_thickness 8 = .ok (.iconst 0, 1) := by decide +kernel
theorem dX4_thickness_9 : decode cX4_thickness 9 = .ok (.goto 9, 3) := by decide +kernel
theorem dX4_thickness_12 : decode cX4_thickness 12 = .ok (.aload_n 0, 1) := by decide +kernel
theorem dX4_thickness_13 : decode cX4_thickness 13 = .ok (.getfield 23, 3) := by decide +kernel
theorem dX4_thickness_16 : decode cX4_thickness 16 = .ok (.iload_n 1, 1) := by decide +kernel
theorem dX4_thickness_17 : decode cX4_thickness 17 = .ok (.iaload, 1) := by decide +kernel
theorem dX4_thickness_18 : decode cX4_thickness 18 = .ok (.ireturn, 1) := by decide +kernel
theorem dX4_state_0 : decode cX4_state 0 = .ok (.aload_n 0, 1) := by decide +kernel
theorem dX4_state_1 : decode cX4_state 1 = .ok (.iload_n 1, 1) := by decide +kernel
theorem dX4_state_2 : decode cX4_state 2 = .ok (.invokevirtual 121, 3) := by decide +kernel
theorem dX4_state_5 : decode cX4_state 5 = .ok (.ifCond .eq 7, 3) := by decide +kernel
theorem dX4_state_8 : decode cX4_state 8 = .ok (.iconst 0, 1) := by decide +kernel
theorem dX4_state_9 : decode cX4_state 9 = .ok (.goto 9, 3) := by decide +kernel
theorem dX4_state_12 : decode cX4_state 12 = .ok (.aload_n 0, 1) := by decide +kernel
theorem dX4_state_13 : decode cX4_state 13 = .ok (.getfield 16, 3) := by decide +kernel
theorem dX4_state_16 : decode cX4_state 16 = .ok (.iload_n 1, 1) := by decide +kernel
theorem dX4_state_17 : decode cX4_state 17 = .ok (.caload, 1) := by decide +kernel
theorem dX4_state_18 : decode cX4_state 18 = .ok (.ireturn, 1) := by decide +kernel
theorem dX4_harden_0 : decode cX4_harden 0 = .ok (.aload_n 0, 1) := by decide +kernel
theorem dX4_harden_1 : decode cX4_harden 1 = .ok (.iload_n 1, 1) := by decide +kernel
theorem dX4_harden_2 : decode cX4_harden 2 = .ok (.invokevirtual 121, 3) := by decide +kernel
theorem dX4_harden_5 : decode cX4_harden 5 = .ok (.ifCond .eq 5, 3) := by decide +kernel
theorem dX4_harden_8 : decode cX4_harden 8 = .ok (.iconst 0, 1) := by decide +kernel
theorem dX4_harden_9 : decode cX4_harden 9 = .ok (.ireturn, 1) := by decide +kernel
theorem dX4_harden_10 : decode cX4_harden 10 = .ok (.iload_n 3, 1) := by decide +kernel
theorem dX4_harden_11 : decode cX4_harden 11 = .ok (.bipush 111, 2) := by decide +kernel
theorem dX4_harden_13 : decode cX4_harden 13 = .ok (.if_icmp .ne 7, 3) := by decide +kernel
theorem dX4_harden_16 : decode cX4_harden 16 = .ok (.iconst 4, 1) := by decide +kernel
theorem dX4_harden_17 : decode cX4_harden 17 = .ok (.goto 26, 3) := by decide +kernel
theorem dX4_harden_20 : decode cX4_harden 20 = .ok (.iload_n 3, 1) := by decide +kernel
theorem dX4_harden_21 : decode cX4_harden 21 = .ok (.bipush 119, 2) := by decide +kernel
theorem dX4_harden_23 : decode cX4_harden 23 = .ok (.if_icmp .ne 8, 3) := by decide +kernel
theorem dX4_harden_26 : decode cX4_harden 26 = .ok (.bipush 8, 2) := by decide +kernel
theorem dX4_harden_28 : decode cX4_harden 28 = .ok (.goto 15, 3) := by decide +kernel
theorem dX4_harden_31 : decode cX4_harden 31 = .ok (.iload_n 3, 1) := by decide +kernel
theorem dX4_harden_32 : decode cX4_harden 32 = .ok (.bipush 98, 2) := by decide +kernel
theorem dX4_harden_34 : decode cX4_harden 34 = .ok (.if_icmp .ne 8, 3) := by decide +kernel
theorem dX4_harden_37 : decode cX4_harden 37 = .ok (.bipush 12, 2) := by decide +kernel
theorem dX4_harden_39 : decode cX4_harden 39 = .ok (.goto 4, 3) := by decide +kernel
theorem dX4_harden_42 : decode cX4_harden 42 = .ok (.iconst 0, 1) := by decide +kernel
theorem dX4_harden_43 : decode cX4_harden 43 = .ok (.istore 4, 2) := by decide +kernel
theorem dX4_harden_45 : decode cX4_harden 45 = .ok (.aload_n 0, 1) := by decide +kernel
theorem dX4_harden_46 : decode cX4_harden 46 = .ok (.iload 4, 2) := by decide +kernel
theorem dX4_harden_48 : decode cX4_harden 48 = .ok (.ifCond .eq 16, 3) := by decide +kernel
theorem dX4_harden_51 : decode cX4_harden 51 = .ok (.iload_n 2, 1) := by decide +kernel
theorem dX4_harden_52 : decode cX4_harden 52 = .ok (.sipush 600, 3) := by decide +kernel
theorem dX4_harden_55 : decode cX4_harden 55 = .ok (.sipush 1200, 3) := by decide +kernel
theorem dX4_harden_58 : decode cX4_harden 58 = .ok (.invokestatic 94, 3) := by decide +kernel
theorem dX4_harden_61 : decode cX4_harden 61 = .ok (.ifCond .ne 7, 3) := by decide +kernel
theorem dX4_harden_64 : decode cX4_harden 64 = .ok (.iconst 2, 1) := by decide +kernel
theorem dX4_harden_65 : decode cX4_harden 65 = .ok (.goto 28, 3) := by decide +kernel
theorem dX4_harden_68 : decode cX4_harden 68 = .ok (.aload_n 0, 1) := by decide +kernel
theorem dX4_harden_69 : decode cX4_harden 69 = .ok (.getfield 16, 3) := by decide +kernel
theorem dX4_harden_72 : decode cX4_harden 72 = .ok (.iload_n 1, 1) := by decide +kernel
theorem dX4_harden_73 : decode cX4_harden 73 = .ok (.caload, 1) := by decide +kernel
theorem dX4_harden_74 : decode cX4_harden 74 = .ok (.bipush 115, 2) := by decide +kernel
theorem dX4_harden_76 : decode cX4_harden 76 = .ok (.if_icmp .ne 12, 3) := by decide +kernel
theorem dX4_harden_79 : decode cX4_harden 79 = .ok (.aload_n 0, 1) := by decide +kernel
theorem dX4_harden_80 : decode cX4_harden 80 = .ok (.getfield 53, 3) := by decide +kernel
theorem dX4_harden_83 : decode cX4_harden 83 = .ok (.iload_n 1, 1) := by decide +kernel
theorem dX4_harden_84 : decode cX4_harden 84 = .ok (.iaload, 1) := by decide +kernel
theorem dX4_harden_85 : decode cX4_harden 85 = .ok (.ifCond .ne 7, 3) := by decide +kernel
theorem dX4_harden_88 : decode cX4_harden 88 = .ok (.iconst 3, 1) := by decide +kernel
theorem dX4_harden_89 : decode cX4_harden 89 = .ok (.goto 4, 3) := by decide +kernel
theorem dX4_harden_92 : decode cX4_harden 92 = .ok (.iconst 0, 1) := by decide +kernel
theorem dX4_harden_93 : decode cX4_harden 93 = .ok (.invokevirtual 98, 3) := by decide +kernel
theorem dX4_harden_96 : decode cX4_harden 96 = .ok (.ifCond .eq 5, 3) := by decide +kernel
theorem dX4_harden_99 : decode cX4_harden 99 = .ok (.iconst 0, 1) := by decide +kernel
theorem dX4_harden_100 : decode cX4_harden 100 = .ok (.ireturn, 1) := by decide +kernel
theorem dX4_harden_101 : decode cX4_harden 101 = .ok (.iload_n 2, 1) := by decide +kernel
theorem dX4_harden_102 : decode cX4_harden 102 = .ok (.sipush 900, 3) := by decide +kernel
theorem dX4_harden_105 : decode cX4_harden 105 = .ok (.aload_n 0, 1) := by decide +kernel
theorem dX4_harden_106 : decode cX4_harden 106 = .ok (.getfield 26, 3) := by decide +kernel
theorem dX4_harden_109 : decode cX4_harden 109 = .ok (.iload_n 1, 1) := by decide +kernel
theorem dX4_harden_110 : decode cX4_harden 110 = .ok (.iaload, 1) := by decide +kernel
theorem dX4_harden_111 : decode cX4_harden 111 = .ok (.isub, 1) := by decide +kernel
theorem dX4_harden_112 : decode cX4_harden 112 = .ok (.if_icmp .ge 5, 3) := by decide +kernel
theorem dX4_harden_115 : decode cX4_harden 115 = .ok (.iconst 0, 1) := by decide +kernel
theorem dX4_harden_116 : decode cX4_harden 116 = .ok (.ireturn, 1) := by decide +kernel
theorem dX4_harden_117 : decode cX4_harden 117 = .ok (.aload_n 0, 1) := by decide +kernel
theorem dX4_harden_118 : decode cX4_harden 118 = .ok (.getfield 35, 3) := by decide +kernel
theorem dX4_harden_121 : decode cX4_harden 121 = .ok (.iload_n 1, 1) := by decide +kernel
theorem dX4_harden_122 : decode cX4_harden 122 = .ok (.iconst 1, 1) := by decide +kernel
theorem dX4_harden_123 : decode cX4_harden 123 = .ok (.bipush 66, 2) := by decide +kernel
theorem dX4_harden_125 : decode cX4_harden 125 = .ok (.aload_n 0, 1) := by decide +kernel
theorem dX4_harden_126 : decode cX4_harden 126 = .ok (.getfield 26, 3) := by decide +kernel
theorem dX4_harden_129 : decode cX4_harden 129 = .ok (.iload_n 1, 1) := by decide +kernel
theorem dX4_harden_130 : decode cX4_harden 130 = .ok (.iaload, 1) := by decide +kernel
theorem dX4_harden_131 : decode cX4_harden 131 = .ok (.iconst 2, 1) := by decide +kernel
theorem dX4_harden_132 : decode cX4_harden 132 = .ok (.idiv, 1) := by decide +kernel
theorem dX4_harden_133 : decode cX4_harden 133 = .ok (.iload 4, 2) := by decide +kernel
theorem dX4_harden_135 : decode cX4_harden 135 = .ok (.iadd, 1) := by decide +kernel
theorem dX4_harden_136 : decode cX4_harden 136 = .ok (.iconst 0, 1) := by decide +kernel
theorem dX4_harden_137 : decode cX4_harden 137 = .ok (.iload_n 2, 1) := by decide +kernel
theorem dX4_harden_138 : decode cX4_harden 138 = .ok (.sipush 900, 3) := by decide +kernel
theorem dX4_harden_141 : decode cX4_harden 141 = .ok (.isub, 1) := by decide +kernel
theorem dX4_harden_142 : decode cX4_harden 142 = .ok (.invokestatic 131, 3) := by decide +kernel
theorem dX4_harden_145 : decode cX4_harden 145 = .ok (.bipush 20, 2) := by decide +kernel
theorem dX4_harden_147 : decode cX4_harden 147 = .ok (.idiv, 1) := by decide +kernel
theorem dX4_harden_148 : decode cX4_harden 148 = .ok (.isub, 1) := by decide +kernel
theorem dX4_harden_149 : decode cX4_harden 149 = .ok (.invokestatic 144, 3) := by decide +kernel
theorem dX4_harden_152 : decode cX4_harden 152 = .ok (.invokestatic 131, 3) := by decide +kernel
theorem dX4_harden_155 : decode cX4_harden 155 = .ok (.iastore, 1) := by decide +kernel
theorem dX4_harden_156 : decode cX4_harden 156 = .ok (.aload_n 0, 1) := by decide +kernel
theorem dX4_harden_157 : decode cX4_harden 157 = .ok (.aload_n 0, 1) := by decide +kernel
theorem dX4_harden_158 : decode cX4_harden 158 = .ok (.getfield 72, 3) := by decide +kernel
theorem dX4_harden_161 : decode cX4_harden 161 = .ok (.i2l, 1) := by decide +kernel
theorem dX4_harden_162 : decode cX4_harden 162 = .ok (.ldc2_w 147, 3) := by decide +kernel
theorem dX4_harden_165 : decode cX4_harden 165 = .ok (.lmul, 1) := by decide +kernel
theorem dX4_harden_166 : decode cX4_harden 166 = .ok (.ldc2_w 149, 3) := by decide +kernel
theorem dX4_harden_169 : decode cX4_harden 169 = .ok (.lrem, 1) := by decide +kernel
theorem dX4_harden_170 : decode cX4_harden 170 = .ok (.l2i, 1) := by decide +kernel
theorem dX4_harden_171 : decode cX4_harden 171 = .ok (.putfield 72, 3) := by decide +kernel
theorem dX4_harden_174 : decode cX4_harden 174 = .ok (.aload_n 0, 1) := by decide +kernel
theorem dX4_harden_175 : decode cX4_harden 175 = .ok (.getfield 38, 3) := by decide +kernel
theorem dX4_harden_178 : decode cX4_harden 178 = .ok (.iload_n 1, 1) := by decide +kernel
theorem dX4_harden_179 : decode cX4_harden 179 = .ok (.dup2, 1) := by decide +kernel
theorem dX4_harden_180 : decode cX4_harden 180 = .ok (.iaload, 1) := by decide +kernel
theorem dX4_harden_181 : decode cX4_harden 181 = .ok (.iload 4, 2) := by decide +kernel
theorem dX4_harden_183 : decode cX4_harden 183 = .ok (.aload_n 0, 1) := by decide +kernel
theorem dX4_harden_184 : decode cX4_harden 184 = .ok (.getfield 19, 3) := by decide +kernel
theorem dX4_harden_187 : decode cX4_harden 187 = .ok (.iload_n 1, 1) := by decide +kernel
theorem dX4_harden_188 : decode cX4_harden 188 = .ok (.iaload, 1) := by decide +kernel
theorem dX4_harden_189 : decode cX4_harden 189 = .ok (.imul, 1) := by decide +kernel
theorem dX4_harden_190 : decode cX4_harden 190 = .ok (.bipush 20, 2) := by decide +kernel
theorem dX4_harden_192 : decode cX4_harden 192 = .ok (.aload_n 0, 1) := by decide +kernel
theorem dX4_harden_193 : decode cX4_harden 193 = .ok (.getfield 23, 3) := by decide +kernel
theorem dX4_harden_196 : decode cX4_harden 196 = .ok (.iload_n 1, 1) := by decide +kernel
theorem dX4_harden_197 : decode cX4_harden 197 = .ok (.iaload, 1) := by decide +kernel
theorem dX4_harden_198 : decode cX4_harden 198 = .ok (.imul, 1) := by decide +kernel
theorem dX4_harden_199 : decode cX4_harden 199 = .ok (.idiv, 1) := by decide +kernel
theorem dX4_harden_200 : decode cX4_harden 200 = .ok (.aload_n 0, 1) := by decide +kernel
theorem dX4_harden_201 : decode cX4_harden 201 = .ok (.getfield 72, 3) := by decide +kernel
theorem dX4_harden_204 : decode cX4_harden 204 = .ok (.iconst 5, 1) := by decide +kernel
theorem dX4_harden_205 : decode cX4_harden 205 = .ok (.irem, 1) := by decide +kernel
theorem dX4_harden_206 : decode cX4_harden 206 = .ok (.iadd, 1) := by decide +kernel
theorem dX4_harden_207 : decode cX4_harden 207 = .ok (.iadd, 1) := by decide +kernel
theorem dX4_harden_208 : decode cX4_harden 208 = .ok (.iastore, 1) := by decide +kernel
theorem dX4_harden_209 : decode cX4_harden 209 = .ok (.aload_n 0, 1) := by decide +kernel
theorem dX4_harden_210 : decode cX4_harden 210 = .ok (.getfield 16, 3) := by decide +kernel
theorem dX4_harden_213 : decode cX4_harden 213 = .ok (.iload_n 1, 1) := by decide +kernel
theorem dX4_harden_214 : decode cX4_harden 214 = .ok (.aload_n 0, 1) := by decide +kernel
theorem dX4_harden_215 : decode cX4_harden 215 = .ok (.getfield 38, 3) := by decide +kernel
theorem dX4_harden_218 : decode cX4_harden 218 = .ok (.iload_n 1, 1) := by decide +kernel
theorem dX4_harden_219 : decode cX4_harden 219 = .ok (.iaload, 1) := by decide +kernel
theorem dX4_harden_220 : decode cX4_harden 220 = .ok (.bipush 30, 2) := by decide +kernel
theorem dX4_harden_222 : decode cX4_harden 222 = .ok (.if_icmp .le 8, 3) := by decide +kernel
theorem dX4_harden_225 : decode cX4_harden 225 = .ok (.bipush 99, 2) := by decide +kernel
theorem dX4_harden_227 : decode cX4_harden 227 = .ok (.goto 5, 3) := by decide +kernel
theorem dX4_harden_230 : decode cX4_harden 230 = .ok (.bipush 104, 2) := by decide +kernel
theorem dX4_harden_232 : decode cX4_harden 232 = .ok (.castore, 1) := by decide +kernel
theorem dX4_harden_233 : decode cX4_harden 233 = .ok (.aload_n 0, 1) := by decide +kernel
theorem dX4_harden_234 : decode cX4_harden 234 = .ok (.getfield 35, 3) := by decide +kernel
theorem dX4_harden_237 : decode cX4_harden 237 = .ok (.iload_n 1, 1) := by decide +kernel
theorem dX4_harden_238 : decode cX4_harden 238 = .ok (.iaload, 1) := by decide +kernel
theorem dX4_harden_239 : decode cX4_harden 239 = .ok (.ireturn, 1) := by decide +kernel
theorem dX4_hardness_0 : decode cX4_hardness 0 = .ok (.aload_n 0, 1) := by decide +kernel
theorem dX4_hardness_1 : decode cX4_hardness 1 = .ok (.iload_n 1, 1) := by decide +kernel
theorem dX4_hardness_2 : decode cX4_hardness 2 = .ok (.invokevirtual 121, 3) := by decide +kernel
theorem dX4_hardness_5 : decode cX4_hardness 5 = .ok (.ifCond .eq 7, 3) := by decide +kernel
theorem dX4_hardness_8 : decode cX4_hardness 8 = .ok (.iconst 0, 1) := by decide +kernel
theorem dX4_hardness_9 : decode cX4_hardness 9 = .ok (.goto 9, 3) := by decide +kernel
theorem dX4_hardness_12 : decode cX4_hardness 12 = .ok (.aload_n 0, 1) := by decide +kernel
theorem dX4_hardness_13 : decode cX4_hardness 13 = .ok (.getfield 35, 3) := by decide +kernel
theorem dX4_hardness_16 : decode cX4_hardness 16 = .ok (.iload_n 1, 1) := by decide +kernel
theorem dX4_hardness_17 : decode cX4_hardness 17 = .ok (.iaload, 1) := by decide +kernel
theorem dX4_hardness_18 : decode cX4_hardness 18 = .ok (.ireturn, 1) := by decide +kernel
theorem dX4_bend_0 : decode cX4_bend 0 = .ok (.aload_n 0, 1) := by decide +kernel
theorem dX4_bend_1 : decode cX4_bend 1 = .ok (.iload_n 1, 1) := by decide +kernel
theorem dX4_bend_2 : decode cX4_bend 2 = .ok (.invokevirtual 121, 3) := by decide +kernel
theorem dX4_bend_5 : decode cX4_bend 5 = .ok (.ifCond .eq 7, 3) := by decide +kernel
theorem dX4_bend_8 : decode cX4_bend 8 = .ok (.iconst 0, 1) := by decide +kernel
theorem dX4_bend_9 : decode cX4_bend 9 = .ok (.goto 9, 3) := by decide +kernel
theorem dX4_bend_12 : decode cX4_bend 12 = .ok (.aload_n 0, 1) := by decide +kernel
theorem dX4_bend_13 : decode cX4_bend 13 = .ok (.getfield 38, 3) := by decide +kernel
theorem dX4_bend_16 : decode cX4_bend 16 = .ok (.iload_n 1, 1) := by decide +kernel
theorem dX4_bend_17 : decode cX4_bend 17 = .ok (.iaload, 1) := by decide +kernel
theorem dX4_bend_18 : decode cX4_bend 18 = .ok (.ireturn, 1) := by decide +kernel
theorem dX4_temper_0 : decode cX4_temper 0 = .ok (.aload_n 0, 1) := by decide +kernel
theorem dX4_temper_1 : decode cX4_temper 1 = .ok (.iload_n 1, 1) := by decide +kernel
theorem dX4_temper_2 : decode cX4_temper 2 = .ok (.invokevirtual 121, 3) := by decide +kernel
theorem dX4_temper_5 : decode cX4_temper 5 = .ok (.ifCond .ne 42, 3) := by decide +kernel
theorem dX4_temper_8 : decode cX4_temper 8 = .ok (.aload_n 0, 1) := by decide +kernel
theorem dX4_temper_9 : decode cX4_temper 9 = .ok (.iload_n 2, 1) := by decide +kernel
theorem dX4_temper_10 : decode cX4_temper 10 = .ok (.bipush 100, 2) := by decide +kernel
theorem dX4_temper_12 : decode cX4_temper 12 = .ok (.sipush 400, 3) := by decide +kernel
theorem dX4_temper_15 : decode cX4_temper 15 = .ok (.invokestatic 94, 3) := by decide +kernel
theorem dX4_temper_18 : decode cX4_temper 18 = .ok (.ifCond .ne 7, 3) := by decide +kernel
theorem dX4_temper_21 : decode cX4_temper 21 = .ok (.iconst 2, 1) := by decide +kernel
theorem dX4_temper_22 : decode cX4_temper 22 = .ok (.goto 19, 3) := by decide +kernel
theorem dX4_temper_25 : decode cX4_temper 25 = .ok (.aload_n 0, 1) := by decide +kernel
theorem dX4_temper_26 : decode cX4_temper 26 = .ok (.getfield 16, 3) := by decide +kernel
theorem dX4_temper_29 : decode cX4_temper 29 = .ok (.iload_n 1, 1) := by decide +kernel
theorem dX4_temper_30 : decode cX4_temper 30 = .ok (.caload, 1) := by decide +kernel
theorem dX4_temper_31 : decode cX4_temper 31 = .ok (.bipush 104, 2) := by decide +kernel
theorem dX4_temper_33 : decode cX4_temper 33 = .ok (.if_icmp .eq 7, 3) := by decide +kernel
theorem dX4_temper_36 : decode cX4_temper 36 = .ok (.iconst 3, 1) := by decide +kernel
theorem dX4_temper_37 : decode cX4_temper 37 = .ok (.goto 4, 3) := by decide +kernel
theorem dX4_temper_40 : decode cX4_temper 40 = .ok (.iconst 0, 1) := by decide +kernel
theorem dX4_temper_41 : decode cX4_temper 41 = .ok (.invokevirtual 98, 3) := by decide +kernel
theorem dX4_temper_44 : decode cX4_temper 44 = .ok (.ifCond .eq 5, 3) := by decide +kernel
theorem dX4_temper_47 : decode cX4_temper 47 = .ok (.iconst 0, 1) := by decide +kernel
theorem dX4_temper_48 : decode cX4_temper 48 = .ok (.ireturn, 1) := by decide +kernel
theorem dX4_temper_49 : decode cX4_temper 49 = .ok (.aload_n 0, 1) := by decide +kernel
theorem dX4_temper_50 : decode cX4_temper 50 = .ok (.getfield 35, 3) := by decide +kernel
theorem dX4_temper_53 : decode cX4_temper 53 = .ok (.iload_n 1, 1) := by decide +kernel
theorem dX4_temper_54 : decode cX4_temper 54 = .ok (.iconst 1, 1) := by decide +kernel
theorem dX4_temper_55 : decode cX4_temper 55 = .ok (.aload_n 0, 1) := by decide +kernel
theorem dX4_temper_56 : decode cX4_temper 56 = .ok (.getfield 35, 3) := by decide +kernel
theorem dX4_temper_59 : decode cX4_temper 59 = .ok (.iload_n 1, 1) := by decide +kernel
theorem dX4_temper_60 : decode cX4_temper 60 = .ok (.iaload, 1) := by decide +kernel
theorem dX4_temper_61 : decode cX4_temper 61 = .ok (.iload_n 2, 1) := by decide +kernel
theorem dX4_temper_62 : decode cX4_temper 62 = .ok (.bipush 25, 2) := by decide +kernel
theorem dX4_temper_64 : decode cX4_temper 64 = .ok (.idiv, 1) := by decide +kernel
theorem dX4_temper_65 : decode cX4_temper 65 = .ok (.isub, 1) := by decide +kernel
theorem dX4_temper_66 : decode cX4_temper 66 = .ok (.invokestatic 131, 3) := by decide +kernel
theorem dX4_temper_69 : decode cX4_temper 69 = .ok (.iastore, 1) := by decide +kernel
theorem dX4_temper_70 : decode cX4_temper 70 = .ok (.aload_n 0, 1) := by decide +kernel
theorem dX4_temper_71 : decode cX4_temper 71 = .ok (.getfield 60, 3) := by decide +kernel
theorem dX4_temper_74 : decode cX4_temper 74 = .ok (.iload_n 1, 1) := by decide +kernel
theorem dX4_temper_75 : decode cX4_temper 75 = .ok (.iconst 1, 1) := by decide +kernel
theorem dX4_temper_76 : decode cX4_temper 76 = .ok (.bastore, 1) := by decide +kernel
theorem dX4_temper_77 : decode cX4_temper 77 = .ok (.aload_n 0, 1) := by decide +kernel
theorem dX4_temper_78 : decode cX4_temper 78 = .ok (.getfield 41, 3) := by decide +kernel
theorem dX4_temper_81 : decode cX4_temper 81 = .ok (.iload_n 1, 1) := by decide +kernel
theorem dX4_temper_82 : decode cX4_temper 82 = .ok (.iconst 0, 1) := by decide +kernel
theorem dX4_temper_83 : decode cX4_temper 83 = .ok (.iastore, 1) := by decide +kernel
theorem dX4_temper_84 : decode cX4_temper 84 = .ok (.aload_n 0, 1) := by decide +kernel
theorem dX4_temper_85 : decode cX4_temper 85 = .ok (.getfield 35, 3) := by decide +kernel
theorem dX4_temper_88 : decode cX4_temper 88 = .ok (.iload_n 1, 1) := by decide +kernel
theorem dX4_temper_89 : decode cX4_temper 89 = .ok (.iaload, 1) := by decide +kernel
theorem dX4_temper_90 : decode cX4_temper 90 = .ok (.ireturn, 1) := by decide +kernel
theorem dX4_straighten_0 : decode cX4_straighten 0 = .ok (.aload_n 0, 1) := by decide +kernel
theorem dX4_straighten_1 : decode cX4_straighten 1 = .ok (.iload_n 1, 1) := by decide +kernel
theorem dX4_straighten_2 : decode cX4_straighten 2 = .ok (.invokevirtual 121, 3) := by decide +kernel
theorem dX4_straighten_5 : decode cX4_straighten 5 = .ok (.ifCond .ne 48, 3) := by decide +kernel
theorem dX4_straighten_8 : decode cX4_straighten 8 = .ok (.aload_n 0, 1) := by decide +kernel
theorem dX4_straighten_9 : decode cX4_straighten 9 = .ok (.iload_n 2, 1) := by decide +kernel
theorem dX4_straighten_10 : decode cX4_straighten 10 = .ok (.iconst 1, 1) := by decide +kernel
theorem dX4_straighten_11 : decode cX4_straighten 11 = .ok (.bipush 6, 2) := by decide +kernel
theorem dX4_straighten_13 : decode cX4_straighten 13 = .ok (.invokestatic 94, 3) := by decide +kernel
theorem dX4_straighten_16 : decode cX4_straighten 16 = .ok (.ifCond .ne 7, 3) := by decide +kernel
theorem dX4_straighten_19 : decode cX4_straighten 19 = .ok (.iconst 2, 1) := by decide +kernel
theorem dX4_straighten_20 : decode cX4_straighten 20 = .ok (.goto 27, 3) := by decide +kernel
theorem dX4_straighten_23 : decode cX4_straighten 23 = .ok (.aload_n 0, 1) := by decide +kernel
theorem dX4_straighten_24 : decode cX4_straighten 24 = .ok (.getfield 60, 3) := by decide +kernel
theorem dX4_straighten_27 : decode cX4_straighten 27 = .ok (.iload_n 1, 1) := by decide +kernel
theorem dX4_straighten_28 : decode cX4_straighten 28 = .ok (.baload, 1) := by decide +kernel
theorem dX4_straighten_29 : decode cX4_straighten 29 = .ok (.ifCond .eq 13, 3) := by decide +kernel
theorem dX4_straighten_32 : decode cX4_straighten 32 = .ok (.aload_n 0, 1) := by decide +kernel
theorem dX4_straighten_33 : decode cX4_straighten 33 = .ok (.getfield 41, 3) := by decide +kernel
theorem dX4_straighten_36 : decode cX4_straighten 36 = .ok (.iload_n 1, 1) := by decide +kernel
theorem dX4_straighten_37 : decode cX4_straighten 37 = .ok (.iaload, 1) := by decide +kernel
theorem dX4_straighten_38 : decode cX4_straighten 38 = .ok (.iconst 2, 1) := by decide +kernel
theorem dX4_straighten_39 : decode cX4_straighten 39 = .ok (.if_icmp .ne 7, 3) := by decide +kernel
theorem dX4_straighten_42 : decode cX4_straighten 42 = .ok (.iconst 3, 1) := by decide +kernel
theorem dX4_straighten_43 : decode cX4_straighten 43 = .ok (.goto 4, 3) := by decide +kernel
theorem dX4_straighten_46 : decode cX4_straighten 46 = .ok (.iconst 0, 1) := by decide +kernel
theorem dX4_straighten_47 : decode cX4_straighten 47 = .ok (.invokevirtual 98, 3) := by decide +kernel
theorem dX4_straighten_50 : decode cX4_straighten 50 = .ok (.ifCond .eq 5, 3) := by decide +kernel
theorem dX4_straighten_53 : decode cX4_straighten 53 = .ok (.iconst 0, 1) := by decide +kernel
theorem dX4_straighten_54 : decode cX4_straighten 54 = .ok (.ireturn, 1) := by decide +kernel
theorem dX4_straighten_55 : decode cX4_straighten 55 = .ok (.aload_n 0, 1) := by decide +kernel
theorem dX4_straighten_56 : decode cX4_straighten 56 = .ok (.getfield 38, 3) := by decide +kernel
theorem dX4_straighten_59 : decode cX4_straighten 59 = .ok (.iload_n 1, 1) := by decide +kernel
theorem dX4_straighten_60 : decode cX4_straighten 60 = .ok (.iconst 0, 1) := by decide +kernel
theorem dX4_straighten_61 : decode cX4_straighten 61 = .ok (.aload_n 0, 1) := by decide +kernel
theorem dX4_straighten_62 : decode cX4_straighten 62 = .ok (.getfield 38, 3) := by decide +kernel
theorem dX4_straighten_65 : decode cX4_straighten 65 = .ok (.iload_n 1, 1) := by decide +kernel
theorem dX4_straighten_66 : decode cX4_straighten 66 = .ok (.iaload, 1) := by decide +kernel
theorem dX4_straighten_67 : decode cX4_straighten 67 = .ok (.iload_n 2, 1) := by decide +kernel
theorem dX4_straighten_68 : decode cX4_straighten 68 = .ok (.isub, 1) := by decide +kernel
theorem dX4_straighten_69 : decode cX4_straighten 69 = .ok (.invokestatic 131, 3) := by decide +kernel
theorem dX4_straighten_72 : decode cX4_straighten 72 = .ok (.iastore, 1) := by decide +kernel
theorem dX4_straighten_73 : decode cX4_straighten 73 = .ok (.aload_n 0, 1) := by decide +kernel
theorem dX4_straighten_74 : decode cX4_straighten 74 = .ok (.getfield 41, 3) := by decide +kernel
theorem dX4_straighten_77 : decode cX4_straighten 77 = .ok (.iload_n 1, 1) := by decide +kernel
theorem dX4_straighten_78 : decode cX4_straighten 78 = .ok (.dup2, 1) := by decide +kernel
theorem dX4_straighten_79 : decode cX4_straighten 79 = .ok (.iaload, 1) := by decide +kernel
theorem dX4_straighten_80 : decode cX4_straighten 80 = .ok (.iconst 1, 1) := by decide +kernel
theorem dX4_straighten_81 : decode cX4_straighten 81 = .ok (.iadd, 1) := by decide +kernel
theorem dX4_straighten_82 : decode cX4_straighten 82 = .ok (.iastore, 1) := by decide +kernel
theorem dX4_straighten_83 : decode cX4_straighten 83 = .ok (.aload_n 0, 1) := by decide +kernel
theorem dX4_straighten_84 : decode cX4_straighten 84 = .ok (.getfield 38, 3) := by decide +kernel
theorem dX4_straighten_87 : decode cX4_straighten 87 = .ok (.iload_n 1, 1) := by decide +kernel
theorem dX4_straighten_88 : decode cX4_straighten 88 = .ok (.iaload, 1) := by decide +kernel
theorem dX4_straighten_89 : decode cX4_straighten 89 = .ok (.ireturn, 1) := by decide +kernel
theorem dX4_seed_0 : decode cX4_seed 0 = .ok (.aload_n 0, 1) := by decide +kernel
theorem dX4_seed_1 : decode cX4_seed 1 = .ok (.iload_n 1, 1) := by decide +kernel
theorem dX4_seed_2 : decode cX4_seed 2 = .ok (.iconst 1, 1) := by decide +kernel
theorem dX4_seed_3 : decode cX4_seed 3 = .ok (.ldc 151, 2) := by decide +kernel
theorem dX4_seed_5 : decode cX4_seed 5 = .ok (.invokestatic 94, 3) := by decide +kernel
theorem dX4_seed_8 : decode cX4_seed 8 = .ok (.ifCond .eq 7, 3) := by decide +kernel
theorem dX4_seed_11 : decode cX4_seed 11 = .ok (.iconst 0, 1) := by decide +kernel
theorem dX4_seed_12 : decode cX4_seed 12 = .ok (.goto 4, 3) := by decide +kernel
theorem dX4_seed_15 : decode cX4_seed 15 = .ok (.iconst 1, 1) := by decide +kernel
theorem dX4_seed_16 : decode cX4_seed 16 = .ok (.invokevirtual 98, 3) := by decide +kernel
theorem dX4_seed_19 : decode cX4_seed 19 = .ok (.ifCond .eq 5, 3) := by decide +kernel
theorem dX4_seed_22 : decode cX4_seed 22 = .ok (.iconst 0, 1) := by decide +kernel
theorem dX4_seed_23 : decode cX4_seed 23 = .ok (.ireturn, 1) := by decide +kernel
theorem dX4_seed_24 : decode cX4_seed 24 = .ok (.aload_n 0, 1) := by decide +kernel
theorem dX4_seed_25 : decode cX4_seed 25 = .ok (.getfield 72, 3) := by decide +kernel
theorem dX4_seed_28 : decode cX4_seed 28 = .ok (.istore_n 2, 1) := by decide +kernel
theorem dX4_seed_29 : decode cX4_seed 29 = .ok (.aload_n 0, 1) := by decide +kernel
theorem dX4_seed_30 : decode cX4_seed 30 = .ok (.iload_n 1, 1) := by decide +kernel
theorem dX4_seed_31 : decode cX4_seed 31 = .ok (.putfield 72, 3) := by decide +kernel
theorem dX4_seed_34 : decode cX4_seed 34 = .ok (.iload_n 2, 1) := by decide +kernel
theorem dX4_seed_35 : decode cX4_seed 35 = .ok (.ireturn, 1) := by decide +kernel
theorem dX4_stroke_0 : decode cX4_stroke 0 = .ok (.iconst 0, 1) := by decide +kernel
theorem dX4_stroke_1 : decode cX4_stroke 1 = .ok (.istore_n 3, 1) := by decide +kernel
theorem dX4_stroke_2 : decode cX4_stroke 2 = .ok (.bipush 60, 2) := by decide +kernel
theorem dX4_stroke_4 : decode cX4_stroke 4 = .ok (.iload_n 1, 1) := by decide +kernel
theorem dX4_stroke_5 : decode cX4_stroke 5 = .ok (.imul, 1) := by decide +kernel
theorem dX4_stroke_6 : decode cX4_stroke 6 = .ok (.istore 4, 2) := by decide +kernel
theorem dX4_stroke_8 : decode cX4_stroke 8 = .ok (.iload 4, 2) := by decide +kernel
theorem dX4_stroke_10 : decode cX4_stroke 10 = .ok (.bipush 60, 2) := by decide +kernel
theorem dX4_stroke_12 : decode cX4_stroke 12 = .ok (.iload_n 1, 1) := by decide +kernel
theorem dX4_stroke_13 : decode cX4_stroke 13 = .ok (.imul, 1) := by decide +kernel
theorem dX4_stroke_14 : decode cX4_stroke 14 = .ok (.aload_n 0, 1) := by decide +kernel
theorem dX4_stroke_15 : decode cX4_stroke 15 = .ok (.getfield 53, 3) := by decide +kernel
theorem dX4_stroke_18 : decode cX4_stroke 18 = .ok (.iload_n 1, 1) := by decide +kernel
theorem dX4_stroke_19 : decode cX4_stroke 19 = .ok (.iaload, 1) := by decide +kernel
theorem dX4_stroke_20 : decode cX4_stroke 20 = .ok (.iadd, 1) := by decide +kernel
theorem dX4_stroke_21 : decode cX4_stroke 21 = .ok (.if_icmp .ge 157, 3) := by decide +kernel
theorem dX4_stroke_24 : decode cX4_stroke 24 = .ok (.aload_n 0, 1) := by decide +kernel
theorem dX4_stroke_25 : decode cX4_stroke 25 = .ok (.getfield 66, 3) := by decide +kernel
theorem dX4_stroke_28 : decode cX4_stroke 28 = .ok (.iload 4, 2) := by decide +kernel
theorem dX4_stroke_30 : decode cX4_stroke 30 = .ok (.iaload, 1) := by decide +kernel
theorem dX4_stroke_31 : decode cX4_stroke 31 = .ok (.ifCond .eq 141, 3) := by decide +kernel
theorem dX4_stroke_34 : decode cX4_stroke 34 = .ok (.aload_n 0, 1) := by decide +kernel
theorem dX4_stroke_35 : decode cX4_stroke 35 = .ok (.getfield 44, 3) := by decide +kernel
theorem dX4_stroke_38 : decode cX4_stroke 38 = .ok (.iload_n 1, 1) := by decide +kernel
theorem dX4_stroke_39 : decode cX4_stroke 39 = .ok (.iaload, 1) := by decide +kernel
theorem dX4_stroke_40 : decode cX4_stroke 40 = .ok (.aload_n 0, 1) := by decide +kernel
theorem dX4_stroke_41 : decode cX4_stroke 41 = .ok (.iload_n 1, 1) := by decide +kernel
theorem dX4_stroke_42 : decode cX4_stroke 42 = .ok (.invokevirtual 141, 3) := by decide +kernel
theorem dX4_stroke_45 : decode cX4_stroke 45 = .ok (.if_icmp .lt 6, 3) := by decide +kernel
theorem dX4_stroke_48 : decode cX4_stroke 48 = .ok (.goto 124, 3) := by decide +kernel
theorem dX4_stroke_51 : decode cX4_stroke 51 = .ok (.aload_n 0, 1) := by decide +kernel
theorem dX4_stroke_52 : decode cX4_stroke 52 = .ok (.getfield 35, 3) := by decide +kernel
theorem dX4_stroke_55 : decode cX4_stroke 55 = .ok (.iload_n 1, 1) := by decide +kernel
theorem dX4_stroke_56 : decode cX4_stroke 56 = .ok (.iaload, 1) := by decide +kernel
theorem dX4_stroke_57 : decode cX4_stroke 57 = .ok (.iload_n 2, 1) := by decide +kernel
theorem dX4_stroke_58 : decode cX4_stroke 58 = .ok (.if_icmp .le 29, 3) := by decide +kernel
theorem dX4_stroke_61 : decode cX4_stroke 61 = .ok (.aload_n 0, 1) := by decide +kernel
theorem dX4_stroke_62 : decode cX4_stroke 62 = .ok (.getfield 66, 3) := by decide +kernel
theorem dX4_stroke_65 : decode cX4_stroke 65 = .ok (.iload 4, 2) := by decide +kernel
theorem dX4_stroke_67 : decode cX4_stroke 67 = .ok (.iaload, 1) := by decide +kernel
theorem dX4_stroke_68 : decode cX4_stroke 68 = .ok (.iconst 1, 1) := by decide +kernel
theorem dX4_stroke_69 : decode cX4_stroke 69 = .ok (.aload_n 0, 1) := by decide +kernel
theorem dX4_stroke_70 : decode cX4_stroke 70 = .ok (.getfield 35, 3) := by decide +kernel
theorem dX4_stroke_73 : decode cX4_stroke 73 = .ok (.iload_n 1, 1) := by decide +kernel
theorem dX4_stroke_74 : decode cX4_stroke 74 = .ok (.iaload, 1) := by decide +kernel
theorem dX4_stroke_75 : decode cX4_stroke 75 = .ok (.iload_n 2, 1) := by decide +kernel
theorem dX4_stroke_76 : decode cX4_stroke 76 = .ok (.isub, 1) := by decide +kernel
theorem dX4_stroke_77 : decode cX4_stroke 77 = .ok (.bipush 10, 2) := by decide +kernel
theorem dX4_stroke_79 : decode cX4_stroke 79 = .ok (.idiv, 1) := by decide +kernel
theorem dX4_stroke_80 : decode cX4_stroke 80 = .ok (.iadd, 1) := by decide +kernel
theorem dX4_stroke_81 : decode cX4_stroke 81 = .ok (.invokestatic 144, 3) := by decide +kernel
theorem dX4_stroke_84 : decode cX4_stroke 84 = .ok (.goto 4, 3) := by decide +kernel
theorem dX4_stroke_87 : decode cX4_stroke 87 = .ok (.iconst 0, 1) := by decide +kernel
theorem dX4_stroke_88 : decode cX4_stroke 88 = .ok (.istore 5, 2) := by decide +kernel
theorem dX4_stroke_90 : decode cX4_stroke 90 = .ok (.aload_n 0, 1) := by decide +kernel
theorem dX4_stroke_91 : decode cX4_stroke 91 = .ok (.getfield 44, 3) := by decide +kernel
theorem dX4_stroke_94 : decode cX4_stroke 94 = .ok (.iload_n 1, 1) := by decide +kernel
theorem dX4_stroke_95 : decode cX4_stroke 95 = .ok (.dup2, 1) := by decide +kernel
theorem dX4_stroke_96 : decode cX4_stroke 96 = .ok (.iaload, 1) := by decide +kernel
theorem dX4_stroke_97 : decode cX4_stroke 97 = .ok (.iload 5, 2) := by decide +kernel
theorem dX4_stroke_99 : decode cX4_stroke 99 = .ok (.iadd, 1) := by decide +kernel
theorem dX4_stroke_100 : decode cX4_stroke 100 = .ok (.iastore, 1) := by decide +kernel
theorem dX4_stroke_101 : decode cX4_stroke 101 = .ok (.iload_n 3, 1) := by decide +kernel
theorem dX4_stroke_102 : decode cX4_stroke 102 = .ok (.iload 5, 2) := by decide +kernel
theorem dX4_stroke_104 : decode cX4_stroke 104 = .ok (.iadd, 1) := by decide +kernel
theorem dX4_stroke_105 : decode cX4_stroke 105 = .ok (.istore_n 3, 1) := by decide +kernel
theorem dX4_stroke_106 : decode cX4_stroke 106 = .ok (.aload_n 0, 1) := by decide +kernel
theorem dX4_stroke_107 : decode cX4_stroke 107 = .ok (.getfield 69, 3) := by decide +kernel
theorem dX4_stroke_110 : decode cX4_stroke 110 = .ok (.iload 4, 2) := by decide +kernel
theorem dX4_stroke_112 : decode cX4_stroke 112 = .ok (.dup2, 1) := by decide +kernel
theorem dX4_stroke_113 : decode cX4_stroke 113 = .ok (.iaload, 1) := by decide +kernel
theorem dX4_stroke_114 : decode cX4_stroke 114 = .ok (.iload_n 2, 1) := by decide +kernel
theorem dX4_stroke_115 : decode cX4_stroke 115 = .ok (.iadd, 1) := by decide +kernel
theorem dX4_stroke_116 : decode cX4_stroke 116 = .ok (.iastore, 1) := by decide +kernel
theorem dX4_stroke_117 : decode cX4_stroke 117 = .ok (.aload_n 0, 1) := by decide +kernel
theorem dX4_stroke_118 : decode cX4_stroke 118 = .ok (.getfield 66, 3) := by decide +kernel
theorem dX4_stroke_121 : decode cX4_stroke 121 = .ok (.iload 4, 2) := by decide +kernel
theorem dX4_stroke_123 : decode cX4_stroke 123 = .ok (.dup2, 1) := by decide +kernel
theorem dX4_stroke_124 : decode cX4_stroke 124 = .ok (.iaload, 1) := by decide +kernel
theorem dX4_stroke_125 : decode cX4_stroke 125 = .ok (.aload_n 0, 1) := by decide +kernel
theorem dX4_stroke_126 : decode cX4_stroke 126 = .ok (.getfield 69, 3) := by decide +kernel
theorem dX4_stroke_129 : decode cX4_stroke 129 = .ok (.iload 4, 2) := by decide +kernel
theorem dX4_stroke_131 : decode cX4_stroke 131 = .ok (.iaload, 1) := by decide +kernel
theorem dX4_stroke_132 : decode cX4_stroke 132 = .ok (.bipush 100, 2) := by decide +kernel
theorem dX4_stroke_134 : decode cX4_stroke 134 = .ok (.if_icmp .lt 7, 3) := by decide +kernel
theorem dX4_stroke_137 : decode cX4_stroke 137 = .ok (.iconst 1, 1) := by decide +kernel
theorem dX4_stroke_138 : decode cX4_stroke 138 = .ok (.goto 4, 3) := by decide +kernel
theorem dX4_stroke_141 : decode cX4_stroke 141 = .ok (.iconst 0, 1) := by decide +kernel
theorem dX4_stroke_142 : decode cX4_stroke 142 = .ok (.isub, 1) := by decide +kernel
theorem dX4_stroke_143 : decode cX4_stroke 143 = .ok (.iastore, 1) := by decide +kernel
theorem dX4_stroke_144 : decode cX4_stroke 144 = .ok (.aload_n 0, 1) := by decide +kernel
theorem dX4_stroke_145 : decode cX4_stroke 145 = .ok (.getfield 69, 3) := by decide +kernel
theorem dX4_stroke_148 : decode cX4_stroke 148 = .ok (.iload 4, 2) := by decide +kernel
theorem dX4_stroke_150 : decode cX4_stroke 150 = .ok (.dup2, 1) := by decide +kernel
theorem dX4_stroke_151 : decode cX4_stroke 151 = .ok (.iaload, 1) := by decide +kernel
theorem dX4_stroke_152 : decode cX4_stroke 152 = .ok (.aload_n 0, 1) := by decide +kernel
theorem dX4_stroke_153 : decode cX4_stroke 153 = .ok (.getfield 69, 3) := by decide +kernel
theorem dX4_stroke_156 : decode cX4_stroke 156 = .ok (.iload 4, 2) := by decide +kernel
theorem dX4_stroke_158 : decode cX4_stroke 158 = .ok (.iaload, 1) := by decide +kernel
theorem dX4_stroke_159 : decode cX4_stroke 159 = .ok (.bipush 100, 2) := by decide +kernel
theorem dX4_stroke_161 : decode cX4_stroke 161 = .ok (.if_icmp .lt 8, 3) := by decide +kernel
theorem dX4_stroke_164 : decode cX4_stroke 164 = .ok (.bipush 100, 2) := by decide +kernel
theorem dX4_stroke_166 : decode cX4_stroke 166 = .ok (.goto 4, 3) := by decide +kernel
theorem dX4_stroke_169 : decode cX4_stroke 169 = .ok (.iconst 0, 1) := by decide +kernel
theorem dX4_stroke_170 : decode cX4_stroke 170 = .ok (.isub, 1) := by decide +kernel
theorem dX4_stroke_171 : decode cX4_stroke 171 = .ok (.iastore, 1) := by decide +kernel
theorem dX4_stroke_172 : decode cX4_stroke 172 = .ok (.iinc 4 1, 3) := by decide +kernel
theorem dX4_stroke_175 : decode cX4_stroke 175 = .ok (.goto (-167), 3) := by decide +kernel
theorem dX4_stroke_178 : decode cX4_stroke 178 = .ok (.iload_n 3, 1) := by decide +kernel
theorem dX4_stroke_179 : decode cX4_stroke 179 = .ok (.ireturn, 1) := by decide +kernel
theorem dX4_strokes_0 : decode cX4_strokes 0 = .ok (.aload_n 0, 1) := by decide +kernel
theorem dX4_strokes_1 : decode cX4_strokes 1 = .ok (.iload_n 1, 1) := by decide +kernel
theorem dX4_strokes_2 : decode cX4_strokes 2 = .ok (.invokevirtual 121, 3) := by decide +kernel
theorem dX4_strokes_5 : decode cX4_strokes 5 = .ok (.ifCond .ne 50, 3) := by decide +kernel
theorem dX4_strokes_8 : decode cX4_strokes 8 = .ok (.aload_n 0, 1) := by decide +kernel
theorem dX4_strokes_9 : decode cX4_strokes 9 = .ok (.iload_n 2, 1) := by decide +kernel
theorem dX4_strokes_10 : decode cX4_strokes 10 = .ok (.iconst 1, 1) := by decide +kernel
theorem dX4_strokes_11 : decode cX4_strokes 11 = .ok (.bipush 70, 2) := by decide +kernel
theorem dX4_strokes_13 : decode cX4_strokes 13 = .ok (.invokestatic 94, 3) := by decide +kernel
theorem dX4_strokes_16 : decode cX4_strokes 16 = .ok (.ifCond .eq 13, 3) := by decide +kernel
theorem dX4_strokes_19 : decode cX4_strokes 19 = .ok (.iload_n 3, 1) := by decide +kernel
theorem dX4_strokes_20 : decode cX4_strokes 20 = .ok (.iconst 1, 1) := by decide +kernel
theorem dX4_strokes_21 : decode cX4_strokes 21 = .ok (.bipush 40, 2) := by decide +kernel
theorem dX4_strokes_23 : decode cX4_strokes 23 = .ok (.invokestatic 94, 3) := by decide +kernel
theorem dX4_strokes_26 : decode cX4_strokes 26 = .ok (.ifCond .ne 7, 3) := by decide +kernel
theorem dX4_strokes_29 : decode cX4_strokes 29 = .ok (.iconst 2, 1) := by decide +kernel
theorem dX4_strokes_30 : decode cX4_strokes 30 = .ok (.goto 19, 3) := by decide +kernel
theorem dX4_strokes_33 : decode cX4_strokes 33 = .ok (.aload_n 0, 1) := by decide +kernel
theorem dX4_strokes_34 : decode cX4_strokes 34 = .ok (.getfield 16, 3) := by decide +kernel
theorem dX4_strokes_37 : decode cX4_strokes 37 = .ok (.iload_n 1, 1) := by decide +kernel
theorem dX4_strokes_38 : decode cX4_strokes 38 = .ok (.caload, 1) := by decide +kernel
theorem dX4_strokes_39 : decode cX4_strokes 39 = .ok (.bipush 104, 2) := by decide +kernel
theorem dX4_strokes_41 : decode cX4_strokes 41 = .ok (.if_icmp .eq 7, 3) := by decide +kernel
theorem dX4_strokes_44 : decode cX4_strokes 44 = .ok (.iconst 3, 1) := by decide +kernel
theorem dX4_strokes_45 : decode cX4_strokes 45 = .ok (.goto 4, 3) := by decide +kernel
theorem dX4_strokes_48 : decode cX4_strokes 48 = .ok (.iconst 0, 1) := by decide +kernel
theorem dX4_strokes_49 : decode cX4_strokes 49 = .ok (.invokevirtual 98, 3) := by decide +kernel
theorem dX4_strokes_52 : decode cX4_strokes 52 = .ok (.ifCond .eq 5, 3) := by decide +kernel
theorem dX4_strokes_55 : decode cX4_strokes 55 = .ok (.iconst 0, 1) := by decide +kernel
theorem dX4_strokes_56 : decode cX4_strokes 56 = .ok (.ireturn, 1) := by decide +kernel
theorem dX4_strokes_57 : decode cX4_strokes 57 = .ok (.aload_n 0, 1) := by decide +kernel
theorem dX4_strokes_58 : decode cX4_strokes 58 = .ok (.getfield 60, 3) := by decide +kernel
theorem dX4_strokes_61 : decode cX4_strokes 61 = .ok (.iload_n 1, 1) := by decide +kernel
theorem dX4_strokes_62 : decode cX4_strokes 62 = .ok (.iconst 0, 1) := by decide +kernel
theorem dX4_strokes_63 : decode cX4_strokes 63 = .ok (.bastore, 1) := by decide +kernel
theorem dX4_strokes_64 : decode cX4_strokes 64 = .ok (.iconst 0, 1) := by decide +kernel
theorem dX4_strokes_65 : decode cX4_strokes 65 = .ok (.istore 4, 2) := by decide +kernel
theorem dX4_strokes_67 : decode cX4_strokes 67 = .ok (.iconst 0, 1) := by decide +kernel
theorem dX4_strokes_68 : decode cX4_strokes 68 = .ok (.istore 5, 2) := by decide +kernel
theorem dX4_strokes_70 : decode cX4_strokes 70 = .ok (.iload 5, 2) := by decide +kernel
theorem dX4_strokes_72 : decode cX4_strokes 72 = .ok (.iload_n 3, 1) := by decide +kernel
theorem dX4_strokes_73 : decode cX4_strokes 73 = .ok (.if_icmp .ge 20, 3) := by decide +kernel
theorem dX4_strokes_76 : decode cX4_strokes 76 = .ok (.iload 4, 2) := by decide +kernel
theorem dX4_strokes_78 : decode cX4_strokes 78 = .ok (.aload_n 0, 1) := by decide +kernel
theorem dX4_strokes_79 : decode cX4_strokes 79 = .ok (.iload_n 1, 1) := by decide +kernel
theorem dX4_strokes_80 : decode cX4_strokes 80 = .ok (.iload_n 2, 1) := by decide +kernel
theorem dX4_strokes_81 : decode cX4_strokes 81 = .ok (.invokevirtual 152, 3) := by decide +kernel
theorem dX4_strokes_84 : decode cX4_strokes 84 = .ok (.iadd, 1) := by decide +kernel
theorem dX4_strokes_85 : decode cX4_strokes 85 = .ok (.istore 4, 2) := by decide +kernel
theorem dX4_strokes_87 : decode cX4_strokes 87 = .ok (.iinc 5 1, 3) := by decide +kernel
theorem dX4_strokes_90 : decode cX4_strokes 90 = .ok (.goto (-20), 3) := by decide +kernel
theorem dX4_strokes_93 : decode cX4_strokes 93 = .ok (.aload_n 0, 1) := by decide +kernel
theorem dX4_strokes_94 : decode cX4_strokes 94 = .ok (.getfield 47, 3) := by decide +kernel
theorem dX4_strokes_97 : decode cX4_strokes 97 = .ok (.iload_n 1, 1) := by decide +kernel
theorem dX4_strokes_98 : decode cX4_strokes 98 = .ok (.dup2, 1) := by decide +kernel
theorem dX4_strokes_99 : decode cX4_strokes 99 = .ok (.iaload, 1) := by decide +kernel
theorem dX4_strokes_100 : decode cX4_strokes 100 = .ok (.iload 4, 2) := by decide +kernel
theorem dX4_strokes_102 : decode cX4_strokes 102 = .ok (.iadd, 1) := by decide +kernel
theorem dX4_strokes_103 : decode cX4_strokes 103 = .ok (.iastore, 1) := by decide +kernel
theorem dX4_strokes_104 : decode cX4_strokes 104 = .ok (.iload 4, 2) := by decide +kernel
theorem dX4_strokes_106 : decode cX4_strokes 106 = .ok (.ireturn, 1) := by decide +kernel
theorem dX4_chips_0 : decode cX4_chips 0 = .ok (.aload_n 0, 1) := by decide +kernel
theorem dX4_chips_1 : decode cX4_chips 1 = .ok (.iload_n 1, 1) := by decide +kernel
theorem dX4_chips_2 : decode cX4_chips 2 = .ok (.invokevirtual 121, 3) := by decide +kernel
theorem dX4_chips_5 : decode cX4_chips 5 = .ok (.ifCond .eq 7, 3) := by decide +kernel
theorem dX4_chips_8 : decode cX4_chips 8 = .ok (.iconst 0, 1) := by decide +kernel
theorem dX4_chips_9 : decode cX4_chips 9 = .ok (.goto 9, 3) := by decide +kernel
theorem dX4_chips_12 : decode cX4_chips 12 = .ok (.aload_n 0, 1) := by decide +kernel
theorem dX4_chips_13 : decode cX4_chips 13 = .ok (.getfield 44, 3) := by decide +kernel
theorem dX4_chips_16 : decode cX4_chips 16 = .ok (.iload_n 1, 1) := by decide +kernel
theorem dX4_chips_17 : decode cX4_chips 17 = .ok (.iaload, 1) := by decide +kernel
theorem dX4_chips_18 : decode cX4_chips 18 = .ok (.ireturn, 1) := by decide +kernel
theorem dX4_brush_0 : decode cX4_brush 0 = .ok (.aload_n 0, 1) := by decide +kernel
theorem dX4_brush_1 : decode cX4_brush 1 = .ok (.iload_n 1, 1) := by decide +kernel
theorem dX4_brush_2 : decode cX4_brush 2 = .ok (.invokevirtual 121, 3) := by decide +kernel
theorem dX4_brush_5 : decode cX4_brush 5 = .ok (.ifCond .eq 5, 3) := by decide +kernel
theorem dX4_brush_8 : decode cX4_brush 8 = .ok (.iconst 0, 1) := by decide +kernel
theorem dX4_brush_9 : decode cX4_brush 9 = .ok (.ireturn, 1) := by decide +kernel
theorem dX4_brush_10 : decode cX4_brush 10 = .ok (.aload_n 0, 1) := by decide +kernel
theorem dX4_brush_11 : decode cX4_brush 11 = .ok (.getfield 44, 3) := by decide +kernel
theorem dX4_brush_14 : decode cX4_brush 14 = .ok (.iload_n 1, 1) := by decide +kernel
theorem dX4_brush_15 : decode cX4_brush 15 = .ok (.iaload, 1) := by decide +kernel
theorem dX4_brush_16 : decode cX4_brush 16 = .ok (.istore_n 2, 1) := by decide +kernel
theorem dX4_brush_17 : decode cX4_brush 17 = .ok (.aload_n 0, 1) := by decide +kernel
theorem dX4_brush_18 : decode cX4_brush 18 = .ok (.getfield 44, 3) := by decide +kernel
theorem dX4_brush_21 : decode cX4_brush 21 = .ok (.iload_n 1, 1) := by decide +kernel
theorem dX4_brush_22 : decode cX4_brush 22 = .ok (.iconst 0, 1) := by decide +kernel
theorem dX4_brush_23 : decode cX4_brush 23 = .ok (.iastore, 1) := by decide +kernel
theorem dX4_brush_24 : decode cX4_brush 24 = .ok (.aload_n 0, 1) := by decide +kernel
theorem dX4_brush_25 : decode cX4_brush 25 = .ok (.getfield 60, 3) := by decide +kernel
theorem dX4_brush_28 : decode cX4_brush 28 = .ok (.iload_n 1, 1) := by decide +kernel
theorem dX4_brush_29 : decode cX4_brush 29 = .ok (.iconst 0, 1) := by decide +kernel
theorem dX4_brush_30 : decode cX4_brush 30 = .ok (.bastore, 1) := by decide +kernel
theorem dX4_brush_31 : decode cX4_brush 31 = .ok (.iload_n 2, 1) := by decide +kernel
theorem dX4_brush_32 : decode cX4_brush 32 = .ok (.ireturn, 1) := by decide +kernel
theorem dX4_work_0 : decode cX4_work 0 = .ok (.aload_n 0, 1) := by decide +kernel
theorem dX4_work_1 : decode cX4_work 1 = .ok (.iload_n 1, 1) := by decide +kernel
theorem dX4_work_2 : decode cX4_work 2 = .ok (.invokevirtual 121, 3) := by decide +kernel
theorem dX4_work_5 : decode cX4_work 5 = .ok (.ifCond .eq 7, 3) := by decide +kernel
theorem dX4_work_8 : decode cX4_work 8 = .ok (.iconst 0, 1) := by decide +kernel
theorem dX4_work_9 : decode cX4_work 9 = .ok (.goto 9, 3) := by decide +kernel
theorem dX4_work_12 : decode cX4_work 12 = .ok (.aload_n 0, 1) := by decide +kernel
theorem dX4_work_13 : decode cX4_work 13 = .ok (.getfield 47, 3) := by decide +kernel
theorem dX4_work_16 : decode cX4_work 16 = .ok (.iload_n 1, 1) := by decide +kernel
theorem dX4_work_17 : decode cX4_work 17 = .ok (.iaload, 1) := by decide +kernel
theorem dX4_work_18 : decode cX4_work 18 = .ok (.ireturn, 1) := by decide +kernel
theorem dX4_soften_0 : decode cX4_soften 0 = .ok (.aload_n 0, 1) := by decide +kernel
theorem dX4_soften_1 : decode cX4_soften 1 = .ok (.iload_n 1, 1) := by decide +kernel
theorem dX4_soften_2 : decode cX4_soften 2 = .ok (.invokevirtual 121, 3) := by decide +kernel
theorem dX4_soften_5 : decode cX4_soften 5 = .ok (.ifCond .ne 26, 3) := by decide +kernel
theorem dX4_soften_8 : decode cX4_soften 8 = .ok (.aload_n 0, 1) := by decide +kernel
theorem dX4_soften_9 : decode cX4_soften 9 = .ok (.aload_n 0, 1) := by decide +kernel
theorem dX4_soften_10 : decode cX4_soften 10 = .ok (.getfield 16, 3) := by decide +kernel
theorem dX4_soften_13 : decode cX4_soften 13 = .ok (.iload_n 1, 1) := by decide +kernel
theorem dX4_soften_14 : decode cX4_soften 14 = .ok (.caload, 1) := by decide +kernel
theorem dX4_soften_15 : decode cX4_soften 15 = .ok (.bipush 104, 2) := by decide +kernel
theorem dX4_soften_17 : decode cX4_soften 17 = .ok (.if_icmp .ne 7, 3) := by decide +kernel
theorem dX4_soften_20 : decode cX4_soften 20 = .ok (.iconst 0, 1) := by decide +kernel
theorem dX4_soften_21 : decode cX4_soften 21 = .ok (.goto 4, 3) := by decide +kernel
theorem dX4_soften_24 : decode cX4_soften 24 = .ok (.iconst 2, 1) := by decide +kernel
theorem dX4_soften_25 : decode cX4_soften 25 = .ok (.invokevirtual 98, 3) := by decide +kernel
theorem dX4_soften_28 : decode cX4_soften 28 = .ok (.ifCond .eq 5, 3) := by decide +kernel
theorem dX4_soften_31 : decode cX4_soften 31 = .ok (.iconst 0, 1) := by decide +kernel
theorem dX4_soften_32 : decode cX4_soften 32 = .ok (.ireturn, 1) := by decide +kernel
theorem dX4_soften_33 : decode cX4_soften 33 = .ok (.aload_n 0, 1) := by decide +kernel
theorem dX4_soften_34 : decode cX4_soften 34 = .ok (.getfield 35, 3) := by decide +kernel
theorem dX4_soften_37 : decode cX4_soften 37 = .ok (.iload_n 1, 1) := by decide +kernel
theorem dX4_soften_38 : decode cX4_soften 38 = .ok (.iaload, 1) := by decide +kernel
theorem dX4_soften_39 : decode cX4_soften 39 = .ok (.istore_n 2, 1) := by decide +kernel
theorem dX4_soften_40 : decode cX4_soften 40 = .ok (.aload_n 0, 1) := by decide +kernel
theorem dX4_soften_41 : decode cX4_soften 41 = .ok (.getfield 35, 3) := by decide +kernel
theorem dX4_soften_44 : decode cX4_soften 44 = .ok (.iload_n 1, 1) := by decide +kernel
theorem dX4_soften_45 : decode cX4_soften 45 = .ok (.iconst 0, 1) := by decide +kernel
theorem dX4_soften_46 : decode cX4_soften 46 = .ok (.iastore, 1) := by decide +kernel
theorem dX4_soften_47 : decode cX4_soften 47 = .ok (.aload_n 0, 1) := by decide +kernel
theorem dX4_soften_48 : decode cX4_soften 48 = .ok (.getfield 16, 3) := by decide +kernel
theorem dX4_soften_51 : decode cX4_soften 51 = .ok (.iload_n 1, 1) := by decide +kernel
theorem dX4_soften_52 : decode cX4_soften 52 = .ok (.bipush 115, 2) := by decide +kernel
theorem dX4_soften_54 : decode cX4_soften 54 = .ok (.castore, 1) := by decide +kernel
theorem dX4_soften_55 : decode cX4_soften 55 = .ok (.aload_n 0, 1) := by decide +kernel
theorem dX4_soften_56 : decode cX4_soften 56 = .ok (.getfield 60, 3) := by decide +kernel
theorem dX4_soften_59 : decode cX4_soften 59 = .ok (.iload_n 1, 1) := by decide +kernel
theorem dX4_soften_60 : decode cX4_soften 60 = .ok (.iconst 0, 1) := by decide +kernel
theorem dX4_soften_61 : decode cX4_soften 61 = .ok (.bastore, 1) := by decide +kernel
theorem dX4_soften_62 : decode cX4_soften 62 = .ok (.iload_n 2, 1) := by decide +kernel
theorem dX4_soften_63 : decode cX4_soften 63 = .ok (.ireturn, 1) := by decide +kernel
theorem dX4_grind_0 : decode cX4_grind 0 = .ok (.aload_n 0, 1) := by decide +kernel
theorem dX4_grind_1 : decode cX4_grind 1 = .ok (.iload_n 1, 1) := by decide +kernel
theorem dX4_grind_2 : decode cX4_grind 2 = .ok (.invokevirtual 121, 3) := by decide +kernel
theorem dX4_grind_5 : decode cX4_grind 5 = .ok (.ifCond .ne 54, 3) := by decide +kernel
theorem dX4_grind_8 : decode cX4_grind 8 = .ok (.aload_n 0, 1) := by decide +kernel
theorem dX4_grind_9 : decode cX4_grind 9 = .ok (.aload_n 0, 1) := by decide +kernel
theorem dX4_grind_10 : decode cX4_grind 10 = .ok (.getfield 16, 3) := by decide +kernel
theorem dX4_grind_13 : decode cX4_grind 13 = .ok (.iload_n 1, 1) := by decide +kernel
theorem dX4_grind_14 : decode cX4_grind 14 = .ok (.caload, 1) := by decide +kernel
theorem dX4_grind_15 : decode cX4_grind 15 = .ok (.bipush 115, 2) := by decide +kernel
theorem dX4_grind_17 : decode cX4_grind 17 = .ok (.if_icmp .ne 31, 3) := by decide +kernel
theorem dX4_grind_20 : decode cX4_grind 20 = .ok (.aload_n 0, 1) := by decide +kernel
theorem dX4_grind_21 : decode cX4_grind 21 = .ok (.getfield 53, 3) := by decide +kernel
theorem dX4_grind_24 : decode cX4_grind 24 = .ok (.iload_n 1, 1) := by decide +kernel
theorem dX4_grind_25 : decode cX4_grind 25 = .ok (.iaload, 1) := by decide +kernel
theorem dX4_grind_26 : decode cX4_grind 26 = .ok (.ifCond .eq 22, 3) := by decide +kernel
theorem dX4_grind_29 : decode cX4_grind 29 = .ok (.aload_n 0, 1) := by decide +kernel
theorem dX4_grind_30 : decode cX4_grind 30 = .ok (.getfield 23, 3) := by decide +kernel
theorem dX4_grind_33 : decode cX4_grind 33 = .ok (.iload_n 1, 1) := by decide +kernel
theorem dX4_grind_34 : decode cX4_grind 34 = .ok (.iaload, 1) := by decide +kernel
theorem dX4_grind_35 : decode cX4_grind 35 = .ok (.iconst 2, 1) := by decide +kernel
theorem dX4_grind_36 : decode cX4_grind 36 = .ok (.isub, 1) := by decide +kernel
theorem dX4_grind_37 : decode cX4_grind 37 = .ok (.aload_n 0, 1) := by decide +kernel
theorem dX4_grind_38 : decode cX4_grind 38 = .ok (.iload_n 1, 1) := by decide +kernel
theorem dX4_grind_39 : decode cX4_grind 39 = .ok (.invokevirtual 110, 3) := by decide +kernel
theorem dX4_grind_42 : decode cX4_grind 42 = .ok (.isub, 1) := by decide +kernel
theorem dX4_grind_43 : decode cX4_grind 43 = .ok (.bipush 20, 2) := by decide +kernel
theorem dX4_grind_45 : decode cX4_grind 45 = .ok (.if_icmp .ge 7, 3) := by decide +kernel
theorem dX4_grind_48 : decode cX4_grind 48 = .ok (.iconst 2, 1) := by decide +kernel
theorem dX4_grind_49 : decode cX4_grind 49 = .ok (.goto 4, 3) := by decide +kernel
theorem dX4_grind_52 : decode cX4_grind 52 = .ok (.iconst 0, 1) := by decide +kernel
theorem dX4_grind_53 : decode cX4_grind 53 = .ok (.invokevirtual 98, 3) := by decide +kernel
theorem dX4_grind_56 : decode cX4_grind 56 = .ok (.ifCond .eq 5, 3) := by decide +kernel
theorem dX4_grind_59 : decode cX4_grind 59 = .ok (.iconst 0, 1) := by decide +kernel
theorem dX4_grind_60 : decode cX4_grind 60 = .ok (.ireturn, 1) := by decide +kernel
theorem dX4_grind_61 : decode cX4_grind 61 = .ok (.aload_n 0, 1) := by decide +kernel
theorem dX4_grind_62 : decode cX4_grind 62 = .ok (.getfield 23, 3) := by decide +kernel
theorem dX4_grind_65 : decode cX4_grind 65 = .ok (.iload_n 1, 1) := by decide +kernel
theorem dX4_grind_66 : decode cX4_grind 66 = .ok (.dup2, 1) := by decide +kernel
theorem dX4_grind_67 : decode cX4_grind 67 = .ok (.iaload, 1) := by decide +kernel
theorem dX4_grind_68 : decode cX4_grind 68 = .ok (.iconst 2, 1) := by decide +kernel
theorem dX4_grind_69 : decode cX4_grind 69 = .ok (.aload_n 0, 1) := by decide +kernel
theorem dX4_grind_70 : decode cX4_grind 70 = .ok (.iload_n 1, 1) := by decide +kernel
theorem dX4_grind_71 : decode cX4_grind 71 = .ok (.invokevirtual 110, 3) := by decide +kernel
theorem dX4_grind_74 : decode cX4_grind 74 = .ok (.iadd, 1) := by decide +kernel
theorem dX4_grind_75 : decode cX4_grind 75 = .ok (.isub, 1) := by decide +kernel
theorem dX4_grind_76 : decode cX4_grind 76 = .ok (.iastore, 1) := by decide +kernel
theorem dX4_grind_77 : decode cX4_grind 77 = .ok (.aload_n 0, 1) := by decide +kernel
theorem dX4_grind_78 : decode cX4_grind 78 = .ok (.getfield 53, 3) := by decide +kernel
theorem dX4_grind_81 : decode cX4_grind 81 = .ok (.iload_n 1, 1) := by decide +kernel
theorem dX4_grind_82 : decode cX4_grind 82 = .ok (.iconst 0, 1) := by decide +kernel
theorem dX4_grind_83 : decode cX4_grind 83 = .ok (.iastore, 1) := by decide +kernel
theorem dX4_grind_84 : decode cX4_grind 84 = .ok (.aload_n 0, 1) := by decide +kernel
theorem dX4_grind_85 : decode cX4_grind 85 = .ok (.getfield 56, 3) := by decide +kernel
theorem dX4_grind_88 : decode cX4_grind 88 = .ok (.iload_n 1, 1) := by decide +kernel
theorem dX4_grind_89 : decode cX4_grind 89 = .ok (.iconst 0, 1) := by decide +kernel
theorem dX4_grind_90 : decode cX4_grind 90 = .ok (.bastore, 1) := by decide +kernel
theorem dX4_grind_91 : decode cX4_grind 91 = .ok (.aload_n 0, 1) := by decide +kernel
theorem dX4_grind_92 : decode cX4_grind 92 = .ok (.getfield 32, 3) := by decide +kernel
theorem dX4_grind_95 : decode cX4_grind 95 = .ok (.iload_n 1, 1) := by decide +kernel
theorem dX4_grind_96 : decode cX4_grind 96 = .ok (.iconst 0, 1) := by decide +kernel
theorem dX4_grind_97 : decode cX4_grind 97 = .ok (.iastore, 1) := by decide +kernel
theorem dX4_grind_98 : decode cX4_grind 98 = .ok (.aload_n 0, 1) := by decide +kernel
theorem dX4_grind_99 : decode cX4_grind 99 = .ok (.getfield 44, 3) := by decide +kernel
theorem dX4_grind_102 : decode cX4_grind 102 = .ok (.iload_n 1, 1) := by decide +kernel
theorem dX4_grind_103 : decode cX4_grind 103 = .ok (.iconst 0, 1) := by decide +kernel
theorem dX4_grind_104 : decode cX4_grind 104 = .ok (.iastore, 1) := by decide +kernel
theorem dX4_grind_105 : decode cX4_grind 105 = .ok (.aload_n 0, 1) := by decide +kernel
theorem dX4_grind_106 : decode cX4_grind 106 = .ok (.getfield 50, 3) := by decide +kernel
theorem dX4_grind_109 : decode cX4_grind 109 = .ok (.iload_n 1, 1) := by decide +kernel
theorem dX4_grind_110 : decode cX4_grind 110 = .ok (.dup2, 1) := by decide +kernel
theorem dX4_grind_111 : decode cX4_grind 111 = .ok (.iaload, 1) := by decide +kernel
theorem dX4_grind_112 : decode cX4_grind 112 = .ok (.iconst 1, 1) := by decide +kernel
theorem dX4_grind_113 : decode cX4_grind 113 = .ok (.iadd, 1) := by decide +kernel
theorem dX4_grind_114 : decode cX4_grind 114 = .ok (.iastore, 1) := by decide +kernel
theorem dX4_grind_115 : decode cX4_grind 115 = .ok (.aload_n 0, 1) := by decide +kernel
theorem dX4_grind_116 : decode cX4_grind 116 = .ok (.getfield 23, 3) := by decide +kernel
theorem dX4_grind_119 : decode cX4_grind 119 = .ok (.iload_n 1, 1) := by decide +kernel
theorem dX4_grind_120 : decode cX4_grind 120 = .ok (.iaload, 1) := by decide +kernel
theorem dX4_grind_121 : decode cX4_grind 121 = .ok (.ireturn, 1) := by decide +kernel
theorem dX4_recuts_0 : decode cX4_recuts 0 = .ok (.aload_n 0, 1) := by decide +kernel
theorem dX4_recuts_1 : decode cX4_recuts 1 = .ok (.iload_n 1, 1) := by decide +kernel
theorem dX4_recuts_2 : decode cX4_recuts 2 = .ok (.invokevirtual 121, 3) := by decide +kernel
theorem dX4_recuts_5 : decode cX4_recuts 5 = .ok (.ifCond .eq 7, 3) := by decide +kernel
theorem dX4_recuts_8 : decode cX4_recuts 8 = .ok (.iconst 0, 1) := by decide +kernel
theorem dX4_recuts_9 : decode cX4_recuts 9 = .ok (.goto 9, 3) := by decide +kernel
theorem dX4_recuts_12 : decode cX4_recuts 12 = .ok (.aload_n 0, 1) := by decide +kernel
theorem dX4_recuts_13 : decode cX4_recuts 13 = .ok (.getfield 50, 3) := by decide +kernel
theorem dX4_recuts_16 : decode cX4_recuts 16 = .ok (.iload_n 1, 1) := by decide +kernel
theorem dX4_recuts_17 : decode cX4_recuts 17 = .ok (.iaload, 1) := by decide +kernel
theorem dX4_recuts_18 : decode cX4_recuts 18 = .ok (.ireturn, 1) := by decide +kernel
theorem dX4_recutsLeft_0 : decode cX4_recutsLeft 0 = .ok (.aload_n 0, 1) := by decide +kernel
theorem dX4_recutsLeft_1 : decode cX4_recutsLeft 1 = .ok (.iload_n 1, 1) := by decide +kernel
theorem dX4_recutsLeft_2 : decode cX4_recutsLeft 2 = .ok (.invokevirtual 121, 3) := by decide +kernel
theorem dX4_recutsLeft_5 : decode cX4_recutsLeft 5 = .ok (.ifCond .ne 22, 3) := by decide +kernel
theorem dX4_recutsLeft_8 : decode cX4_recutsLeft 8 = .ok (.aload_n 0, 1) := by decide +kernel
theorem dX4_recutsLeft_9 : decode cX4_recutsLeft 9 = .ok (.iload_n 2, 1) := by decide +kernel
theorem dX4_recutsLeft_10 : decode cX4_recutsLeft 10 = .ok (.invokestatic 124, 3) := by decide +kernel
theorem dX4_recutsLeft_13 : decode cX4_recutsLeft 13 = .ok (.ifCond .eq 7, 3) := by decide +kernel
theorem dX4_recutsLeft_16 : decode cX4_recutsLeft 16 = .ok (.iconst 0, 1) := by decide +kernel
theorem dX4_recutsLeft_17 : decode cX4_recutsLeft 17 = .ok (.goto 4, 3) := by decide +kernel
theorem dX4_recutsLeft_20 : decode cX4_recutsLeft 20 = .ok (.iconst 2, 1) := by decide +kernel
theorem dX4_recutsLeft_21 : decode cX4_recutsLeft 21 = .ok (.invokevirtual 98, 3) := by decide +kernel
theorem dX4_recutsLeft_24 : decode cX4_recutsLeft 24 = .ok (.ifCond .eq 5, 3) := by decide +kernel
theorem dX4_recutsLeft_27 : decode cX4_recutsLeft 27 = .ok (.iconst 0, 1) := by decide +kernel
theorem dX4_recutsLeft_28 : decode cX4_recutsLeft 28 = .ok (.ireturn, 1) := by decide +kernel
theorem dX4_recutsLeft_29 : decode cX4_recutsLeft 29 = .ok (.aload_n 0, 1) := by decide +kernel
theorem dX4_recutsLeft_30 : decode cX4_recutsLeft 30 = .ok (.getfield 53, 3) := by decide +kernel
theorem dX4_recutsLeft_33 : decode cX4_recutsLeft 33 = .ok (.iload_n 1, 1) := by decide +kernel
theorem dX4_recutsLeft_34 : decode cX4_recutsLeft 34 = .ok (.iaload, 1) := by decide +kernel
theorem dX4_recutsLeft_35 : decode cX4_recutsLeft 35 = .ok (.ifCond .ne 16, 3) := by decide +kernel
theorem dX4_recutsLeft_38 : decode cX4_recutsLeft 38 = .ok (.aload_n 0, 1) := by decide +kernel
theorem dX4_recutsLeft_39 : decode cX4_recutsLeft 39 = .ok (.getfield 7, 3) := by decide +kernel
theorem dX4_recutsLeft_42 : decode cX4_recutsLeft 42 = .ok (.iload_n 1, 1) := by decide +kernel
theorem dX4_recutsLeft_43 : decode cX4_recutsLeft 43 = .ok (.caload, 1) := by decide +kernel
theorem dX4_recutsLeft_44 : decode cX4_recutsLeft 44 = .ok (.iload_n 2, 1) := by decide +kernel
theorem dX4_recutsLeft_45 : decode cX4_recutsLeft 45 = .ok (.invokestatic 102, 3) := by decide +kernel
theorem dX4_recutsLeft_48 : decode cX4_recutsLeft 48 = .ok (.goto 8, 3) := by decide +kernel
theorem dX4_recutsLeft_51 : decode cX4_recutsLeft 51 = .ok (.aload_n 0, 1) := by decide +kernel
theorem dX4_recutsLeft_52 : decode cX4_recutsLeft 52 = .ok (.iload_n 1, 1) := by decide +kernel
theorem dX4_recutsLeft_53 : decode cX4_recutsLeft 53 = .ok (.invokevirtual 110, 3) := by decide +kernel
theorem dX4_recutsLeft_56 : decode cX4_recutsLeft 56 = .ok (.istore_n 3, 1) := by decide +kernel
theorem dX4_recutsLeft_57 : decode cX4_recutsLeft 57 = .ok (.aload_n 0, 1) := by decide +kernel
theorem dX4_recutsLeft_58 : decode cX4_recutsLeft 58 = .ok (.getfield 23, 3) := by decide +kernel
theorem dX4_recutsLeft_61 : decode cX4_recutsLeft 61 = .ok (.iload_n 1, 1) := by decide +kernel
theorem dX4_recutsLeft_62 : decode cX4_recutsLeft 62 = .ok (.iaload, 1) := by decide +kernel
theorem dX4_recutsLeft_63 : decode cX4_recutsLeft 63 = .ok (.istore 4, 2) := by decide +kernel
theorem dX4_recutsLeft_65 : decode cX4_recutsLeft 65 = .ok (.iconst 0, 1) := by decide +kernel
theorem dX4_recutsLeft_66 : decode cX4_recutsLeft 66 = .ok (.istore 5, 2) := by decide +kernel
theorem dX4_recutsLeft_68 : decode cX4_recutsLeft 68 = .ok (.iload 4, 2) := by decide +kernel
theorem dX4_recutsLeft_70 : decode cX4_recutsLeft 70 = .ok (.iconst 2, 1) := by decide +kernel
theorem dX4_recutsLeft_71 : decode cX4_recutsLeft 71 = .ok (.isub, 1) := by decide +kernel
theorem dX4_recutsLeft_72 : decode cX4_recutsLeft 72 = .ok (.iload_n 3, 1) := by decide +kernel
theorem dX4_recutsLeft_73 : decode cX4_recutsLeft 73 = .ok (.isub, 1) := by decide +kernel
theorem dX4_recutsLeft_74 : decode cX4_recutsLeft 74 = .ok (.bipush 20, 2) := by decide +kernel
theorem dX4_recutsLeft_76 : decode cX4_recutsLeft 76 = .ok (.if_icmp .lt 28, 3) := by decide +kernel
theorem dX4_recutsLeft_79 : decode cX4_recutsLeft 79 = .ok (.iload 4, 2) := by decide +kernel
theorem dX4_recutsLeft_81 : decode cX4_recutsLeft 81 = .ok (.iconst 2, 1) := by decide +kernel
theorem dX4_recutsLeft_82 : decode cX4_recutsLeft 82 = .ok (.iload_n 3, 1) := by decide +kernel
theorem dX4_recutsLeft_83 : decode cX4_recutsLeft 83 = .ok (.iadd, 1) := by decide +kernel
theorem dX4_recutsLeft_84 : decode cX4_recutsLeft 84 = .ok (.isub, 1) := by decide +kernel
theorem dX4_recutsLeft_85 : decode cX4_recutsLeft 85 = .ok (.istore 4, 2) := by decide +kernel
theorem dX4_recutsLeft_87 : decode cX4_recutsLeft 87 = .ok (.iinc 5 1, 3) := by decide +kernel
theorem dX4_recutsLeft_90 : decode cX4_recutsLeft 90 = .ok (.aload_n 0, 1) := by decide +kernel
theorem dX4_recutsLeft_91 : decode cX4_recutsLeft 91 = .ok (.getfield 7, 3) := by decide +kernel
theorem dX4_recutsLeft_94 : decode cX4_recutsLeft 94 = .ok (.iload_n 1, 1) := by decide +kernel
theorem dX4_recutsLeft_95 : decode cX4_recutsLeft 95 = .ok (.caload, 1) := by decide +kernel
theorem dX4_recutsLeft_96 : decode cX4_recutsLeft 96 = .ok (.iload_n 2, 1) := by decide +kernel
theorem dX4_recutsLeft_97 : decode cX4_recutsLeft 97 = .ok (.invokestatic 102, 3) := by decide +kernel
theorem dX4_recutsLeft_100 : decode cX4_recutsLeft 100 = .ok (.istore_n 3, 1) := by decide +kernel
theorem dX4_recutsLeft_101 : decode cX4_recutsLeft 101 = .ok (.goto (-33), 3) := by decide +kernel
theorem dX4_recutsLeft_104 : decode cX4_recutsLeft 104 = .ok (.iload 5, 2) := by decide +kernel
theorem dX4_recutsLeft_106 : decode cX4_recutsLeft 106 = .ok (.ireturn, 1) := by decide +kernel
theorem dX4_order_0 : decode cX4_order 0 = .ok (.aload_n 0, 1) := by decide +kernel
theorem dX4_order_1 : decode cX4_order 1 = .ok (.iload_n 1, 1) := by decide +kernel
theorem dX4_order_2 : decode cX4_order 2 = .ok (.invokestatic 117, 3) := by decide +kernel
theorem dX4_order_5 : decode cX4_order 5 = .ok (.ifCond .eq 20, 3) := by decide +kernel
theorem dX4_order_8 : decode cX4_order 8 = .ok (.iload_n 2, 1) := by decide +kernel
theorem dX4_order_9 : decode cX4_order 9 = .ok (.invokestatic 124, 3) := by decide +kernel
theorem dX4_order_12 : decode cX4_order 12 = .ok (.ifCond .eq 13, 3) := by decide +kernel
theorem dX4_order_15 : decode cX4_order 15 = .ok (.iload_n 3, 1) := by decide +kernel
theorem dX4_order_16 : decode cX4_order 16 = .ok (.iconst 1, 1) := by decide +kernel
theorem dX4_order_17 : decode cX4_order 17 = .ok (.bipush 8, 2) := by decide +kernel
theorem dX4_order_19 : decode cX4_order 19 = .ok (.invokestatic 94, 3) := by decide +kernel
theorem dX4_order_22 : decode cX4_order 22 = .ok (.ifCond .ne 7, 3) := by decide +kernel
theorem dX4_order_25 : decode cX4_order 25 = .ok (.iconst 1, 1) := by decide +kernel
theorem dX4_order_26 : decode cX4_order 26 = .ok (.goto 17, 3) := by decide +kernel
theorem dX4_order_29 : decode cX4_order 29 = .ok (.aload_n 0, 1) := by decide +kernel
theorem dX4_order_30 : decode cX4_order 30 = .ok (.getfield 155, 3) := by decide +kernel
theorem dX4_order_33 : decode cX4_order 33 = .ok (.bipush 6, 2) := by decide +kernel
theorem dX4_order_35 : decode cX4_order 35 = .ok (.if_icmp .ne 7, 3) := by decide +kernel
theorem dX4_order_38 : decode cX4_order 38 = .ok (.iconst 2, 1) := by decide +kernel
theorem dX4_order_39 : decode cX4_order 39 = .ok (.goto 4, 3) := by decide +kernel
theorem dX4_order_42 : decode cX4_order 42 = .ok (.iconst 0, 1) := by decide +kernel
theorem dX4_order_43 : decode cX4_order 43 = .ok (.invokevirtual 98, 3) := by decide +kernel
theorem dX4_order_46 : decode cX4_order 46 = .ok (.ifCond .eq 5, 3) := by decide +kernel
theorem dX4_order_49 : decode cX4_order 49 = .ok (.iconst 0, 1) := by decide +kernel
theorem dX4_order_50 : decode cX4_order 50 = .ok (.ireturn, 1) := by decide +kernel
theorem dX4_order_51 : decode cX4_order 51 = .ok (.aload_n 0, 1) := by decide +kernel
theorem dX4_order_52 : decode cX4_order 52 = .ok (.getfield 76, 3) := by decide +kernel
theorem dX4_order_55 : decode cX4_order 55 = .ok (.aload_n 0, 1) := by decide +kernel
theorem dX4_order_56 : decode cX4_order 56 = .ok (.getfield 155, 3) := by decide +kernel
theorem dX4_order_59 : decode cX4_order 59 = .ok (.iload_n 1, 1) := by decide +kernel
theorem dX4_order_60 : decode cX4_order 60 = .ok (.castore, 1) := by decide +kernel
theorem dX4_order_61 : decode cX4_order 61 = .ok (.aload_n 0, 1) := by decide +kernel
theorem dX4_order_62 : decode cX4_order 62 = .ok (.getfield 79, 3) := by decide +kernel
theorem dX4_order_65 : decode cX4_order 65 = .ok (.aload_n 0, 1) := by decide +kernel
theorem dX4_order_66 : decode cX4_order 66 = .ok (.getfield 155, 3) := by decide +kernel
theorem dX4_order_69 : decode cX4_order 69 = .ok (.iload_n 2, 1) := by decide +kernel
theorem dX4_order_70 : decode cX4_order 70 = .ok (.castore, 1) := by decide +kernel
theorem dX4_order_71 : decode cX4_order 71 = .ok (.aload_n 0, 1) := by decide +kernel
theorem dX4_order_72 : decode cX4_order 72 = .ok (.getfield 82, 3) := by decide +kernel
theorem dX4_order_75 : decode cX4_order 75 = .ok (.aload_n 0, 1) := by decide +kernel
theorem dX4_order_76 : decode cX4_order 76 = .ok (.getfield 155, 3) := by decide +kernel
theorem dX4_order_79 : decode cX4_order 79 = .ok (.iload_n 3, 1) := by decide +kernel
theorem dX4_order_80 : decode cX4_order 80 = .ok (.iastore, 1) := by decide +kernel
theorem dX4_order_81 : decode cX4_order 81 = .ok (.aload_n 0, 1) := by decide +kernel
theorem dX4_order_82 : decode cX4_order 82 = .ok (.dup, 1) := by decide +kernel
theorem dX4_order_83 : decode cX4_order 83 = .ok (.getfield 155, 3) := by decide +kernel
theorem dX4_order_86 : decode cX4_order 86 = .ok (.iconst 1, 1) := by decide +kernel
theorem dX4_order_87 : decode cX4_order 87 = .ok (.iadd, 1) := by decide +kernel
theorem dX4_order_88 : decode cX4_order 88 = .ok (.putfield 155, 3) := by decide +kernel
theorem dX4_order_91 : decode cX4_order 91 = .ok (.aload_n 0, 1) := by decide +kernel
theorem dX4_order_92 : decode cX4_order 92 = .ok (.getfield 155, 3) := by decide +kernel
theorem dX4_order_95 : decode cX4_order 95 = .ok (.iconst 1, 1) := by decide +kernel
theorem dX4_order_96 : decode cX4_order 96 = .ok (.isub, 1) := by decide +kernel
theorem dX4_order_97 : decode cX4_order 97 = .ok (.ireturn, 1) := by decide +kernel
theorem dX4_isNoOrder_0 : decode cX4_isNoOrder 0 = .ok (.aload_n 0, 1) := by decide +kernel
theorem dX4_isNoOrder_1 : decode cX4_isNoOrder 1 = .ok (.iload_n 1, 1) := by decide +kernel
theorem dX4_isNoOrder_2 : decode cX4_isNoOrder 2 = .ok (.iconst 0, 1) := by decide +kernel
theorem dX4_isNoOrder_3 : decode cX4_isNoOrder 3 = .ok (.aload_n 0, 1) := by decide +kernel
theorem dX4_isNoOrder_4 : decode cX4_isNoOrder 4 = .ok (.getfield 155, 3) := by decide +kernel
theorem dX4_isNoOrder_7 : decode cX4_isNoOrder 7 = .ok (.iconst 1, 1) := by decide +kernel
theorem dX4_isNoOrder_8 : decode cX4_isNoOrder 8 = .ok (.isub, 1) := by decide +kernel
theorem dX4_isNoOrder_9 : decode cX4_isNoOrder 9 = .ok (.invokestatic 94, 3) := by decide +kernel
theorem dX4_isNoOrder_12 : decode cX4_isNoOrder 12 = .ok (.ifCond .eq 7, 3) := by decide +kernel
theorem dX4_isNoOrder_15 : decode cX4_isNoOrder 15 = .ok (.iconst 0, 1) := by decide +kernel
theorem dX4_isNoOrder_16 : decode cX4_isNoOrder 16 = .ok (.goto 4, 3) := by decide +kernel
theorem dX4_isNoOrder_19 : decode cX4_isNoOrder 19 = .ok (.iconst 1, 1) := by decide +kernel
theorem dX4_isNoOrder_20 : decode cX4_isNoOrder 20 = .ok (.invokevirtual 98, 3) := by decide +kernel
theorem dX4_isNoOrder_23 : decode cX4_isNoOrder 23 = .ok (.ireturn, 1) := by decide +kernel
theorem dX4_fits_0 : decode cX4_fits 0 = .ok (.aload_n 0, 1) := by decide +kernel
theorem dX4_fits_1 : decode cX4_fits 1 = .ok (.getfield 7, 3) := by decide +kernel
theorem dX4_fits_4 : decode cX4_fits 4 = .ok (.iload_n 1, 1) := by decide +kernel
theorem dX4_fits_5 : decode cX4_fits 5 = .ok (.caload, 1) := by decide +kernel
theorem dX4_fits_6 : decode cX4_fits 6 = .ok (.aload_n 0, 1) := by decide +kernel
theorem dX4_fits_7 : decode cX4_fits 7 = .ok (.getfield 76, 3) := by decide +kernel
theorem dX4_fits_10 : decode cX4_fits 10 = .ok (.iload_n 2, 1) := by decide +kernel
theorem dX4_fits_11 : decode cX4_fits 11 = .ok (.caload, 1) := by decide +kernel
theorem dX4_fits_12 : decode cX4_fits 12 = .ok (.if_icmp .ne 31, 3) := by decide +kernel
theorem dX4_fits_15 : decode cX4_fits 15 = .ok (.aload_n 0, 1) := by decide +kernel
theorem dX4_fits_16 : decode cX4_fits 16 = .ok (.getfield 13, 3) := by decide +kernel
theorem dX4_fits_19 : decode cX4_fits 19 = .ok (.iload_n 1, 1) := by decide +kernel
theorem dX4_fits_20 : decode cX4_fits 20 = .ok (.caload, 1) := by decide +kernel
theorem dX4_fits_21 : decode cX4_fits 21 = .ok (.aload_n 0, 1) := by decide +kernel
theorem dX4_fits_22 : decode cX4_fits 22 = .ok (.getfield 79, 3) := by decide +kernel
theorem dX4_fits_25 : decode cX4_fits 25 = .ok (.iload_n 2, 1) := by decide +kernel
theorem dX4_fits_26 : decode cX4_fits 26 = .ok (.caload, 1) := by decide +kernel
theorem dX4_fits_27 : decode cX4_fits 27 = .ok (.if_icmp .ne 16, 3) := by decide +kernel
theorem dX4_fits_30 : decode cX4_fits 30 = .ok (.aload_n 0, 1) := by decide +kernel
theorem dX4_fits_31 : decode cX4_fits 31 = .ok (.getfield 53, 3) := by decide +kernel
theorem dX4_fits_34 : decode cX4_fits 34 = .ok (.iload_n 1, 1) := by decide +kernel
theorem dX4_fits_35 : decode cX4_fits 35 = .ok (.iaload, 1) := by decide +kernel
theorem dX4_fits_36 : decode cX4_fits 36 = .ok (.ifCond .le 7, 3) := by decide +kernel
theorem dX4_fits_39 : decode cX4_fits 39 = .ok (.iconst 1, 1) := by decide +kernel
theorem dX4_fits_40 : decode cX4_fits 40 = .ok (.goto 4, 3) := by decide +kernel
theorem dX4_fits_43 : decode cX4_fits 43 = .ok (.iconst 0, 1) := by decide +kernel
theorem dX4_fits_44 : decode cX4_fits 44 = .ok (.istore_n 3, 1) := by decide +kernel
theorem dX4_fits_45 : decode cX4_fits 45 = .ok (.iload_n 3, 1) := by decide +kernel
theorem dX4_fits_46 : decode cX4_fits 46 = .ok (.ifCond .eq 63, 3) := by decide +kernel
theorem dX4_fits_49 : decode cX4_fits 49 = .ok (.aload_n 0, 1) := by decide +kernel
theorem dX4_fits_50 : decode cX4_fits 50 = .ok (.getfield 16, 3) := by decide +kernel
theorem dX4_fits_53 : decode cX4_fits 53 = .ok (.iload_n 1, 1) := by decide +kernel
theorem dX4_fits_54 : decode cX4_fits 54 = .ok (.caload, 1) := by decide +kernel
theorem dX4_fits_55 : decode cX4_fits 55 = .ok (.bipush 104, 2) := by decide +kernel
theorem dX4_fits_57 : decode cX4_fits 57 = .ok (.if_icmp .ne 52, 3) := by decide +kernel
theorem dX4_fits_60 : decode cX4_fits 60 = .ok (.aload_n 0, 1) := by decide +kernel
theorem dX4_fits_61 : decode cX4_fits 61 = .ok (.getfield 35, 3) := by decide +kernel
theorem dX4_fits_64 : decode cX4_fits 64 = .ok (.iload_n 1, 1) := by decide +kernel
theorem dX4_fits_65 : decode cX4_fits 65 = .ok (.iaload, 1) := by decide +kernel
theorem dX4_fits_66 : decode cX4_fits 66 = .ok (.bipush 50, 2) := by decide +kernel
theorem dX4_fits_68 : decode cX4_fits 68 = .ok (.if_icmp .lt 41, 3) := by decide +kernel
theorem dX4_fits_71 : decode cX4_fits 71 = .ok (.aload_n 0, 1) := by decide +kernel
theorem dX4_fits_72 : decode cX4_fits 72 = .ok (.getfield 38, 3) := by decide +kernel
theorem dX4_fits_75 : decode cX4_fits 75 = .ok (.iload_n 1, 1) := by decide +kernel
theorem dX4_fits_76 : decode cX4_fits 76 = .ok (.iaload, 1) := by decide +kernel
theorem dX4_fits_77 : decode cX4_fits 77 = .ok (.iconst 3, 1) := by decide +kernel
theorem dX4_fits_78 : decode cX4_fits 78 = .ok (.if_icmp .gt 31, 3) := by decide +kernel
theorem dX4_fits_81 : decode cX4_fits 81 = .ok (.aload_n 0, 1) := by decide +kernel
theorem dX4_fits_82 : decode cX4_fits 82 = .ok (.iload_n 1, 1) := by decide +kernel
theorem dX4_fits_83 : decode cX4_fits 83 = .ok (.invokevirtual 138, 3) := by decide +kernel
theorem dX4_fits_86 : decode cX4_fits 86 = .ok (.ifCond .ne 23, 3) := by decide +kernel
theorem dX4_fits_89 : decode cX4_fits 89 = .ok (.aload_n 0, 1) := by decide +kernel
theorem dX4_fits_90 : decode cX4_fits 90 = .ok (.iload_n 1, 1) := by decide +kernel
theorem dX4_fits_91 : decode cX4_fits 91 = .ok (.invokevirtual 158, 3) := by decide +kernel
theorem dX4_fits_94 : decode cX4_fits 94 = .ok (.ifCond .ne 15, 3) := by decide +kernel
theorem dX4_fits_97 : decode cX4_fits 97 = .ok (.aload_n 0, 1) := by decide +kernel
theorem dX4_fits_98 : decode cX4_fits 98 = .ok (.iload_n 1, 1) := by decide +kernel
theorem dX4_fits_99 : decode cX4_fits 99 = .ok (.invokevirtual 161, 3) := by decide +kernel
theorem dX4_fits_102 : decode cX4_fits 102 = .ok (.ifCond .ne 7, 3) := by decide +kernel
theorem dX4_fits_105 : decode cX4_fits 105 = .ok (.iconst 1, 1) := by decide +kernel
theorem dX4_fits_106 : decode cX4_fits 106 = .ok (.goto 4, 3) := by decide +kernel
theorem dX4_fits_109 : decode cX4_fits 109 = .ok (.iconst 0, 1) := by decide +kernel
theorem dX4_fits_110 : decode cX4_fits 110 = .ok (.ireturn, 1) := by decide +kernel
theorem dX4_isGood_0 : decode cX4_isGood 0 = .ok (.aload_n 0, 1) := by decide +kernel
theorem dX4_isGood_1 : decode cX4_isGood 1 = .ok (.iload_n 1, 1) := by decide +kernel
theorem dX4_isGood_2 : decode cX4_isGood 2 = .ok (.invokevirtual 121, 3) := by decide +kernel
theorem dX4_isGood_5 : decode cX4_isGood 5 = .ok (.ifCond .ne 24, 3) := by decide +kernel
theorem dX4_isGood_8 : decode cX4_isGood 8 = .ok (.aload_n 0, 1) := by decide +kernel
theorem dX4_isGood_9 : decode cX4_isGood 9 = .ok (.iload_n 2, 1) := by decide +kernel
theorem dX4_isGood_10 : decode cX4_isGood 10 = .ok (.invokevirtual 164, 3) := by decide +kernel
theorem dX4_isGood_13 : decode cX4_isGood 13 = .ok (.ifCond .ne 16, 3) := by decide +kernel
theorem dX4_isGood_16 : decode cX4_isGood 16 = .ok (.aload_n 0, 1) := by decide +kernel
theorem dX4_isGood_17 : decode cX4_isGood 17 = .ok (.iload_n 1, 1) := by decide +kernel
theorem dX4_isGood_18 : decode cX4_isGood 18 = .ok (.iload_n 2, 1) := by decide +kernel
theorem dX4_isGood_19 : decode cX4_isGood 19 = .ok (.invokevirtual 167, 3) := by decide +kernel
theorem dX4_isGood_22 : decode cX4_isGood 22 = .ok (.ifCond .eq 7, 3) := by decide +kernel
theorem dX4_isGood_25 : decode cX4_isGood 25 = .ok (.iconst 1, 1) := by decide +kernel
theorem dX4_isGood_26 : decode cX4_isGood 26 = .ok (.goto 4, 3) := by decide +kernel
theorem dX4_isGood_29 : decode cX4_isGood 29 = .ok (.iconst 0, 1) := by decide +kernel
theorem dX4_isGood_30 : decode cX4_isGood 30 = .ok (.ireturn, 1) := by decide +kernel
theorem dX4_send_0 : decode cX4_send 0 = .ok (.aload_n 0, 1) := by decide +kernel
theorem dX4_send_1 : decode cX4_send 1 = .ok (.iload_n 1, 1) := by decide +kernel
theorem dX4_send_2 : decode cX4_send 2 = .ok (.invokevirtual 121, 3) := by decide +kernel
theorem dX4_send_5 : decode cX4_send 5 = .ok (.ifCond .ne 47, 3) := by decide +kernel
theorem dX4_send_8 : decode cX4_send 8 = .ok (.aload_n 0, 1) := by decide +kernel
theorem dX4_send_9 : decode cX4_send 9 = .ok (.iload_n 2, 1) := by decide +kernel
theorem dX4_send_10 : decode cX4_send 10 = .ok (.invokevirtual 164, 3) := by decide +kernel
theorem dX4_send_13 : decode cX4_send 13 = .ok (.ifCond .ne 39, 3) := by decide +kernel
theorem dX4_send_16 : decode cX4_send 16 = .ok (.aload_n 0, 1) := by decide +kernel
theorem dX4_send_17 : decode cX4_send 17 = .ok (.aload_n 0, 1) := by decide +kernel
theorem dX4_send_18 : decode cX4_send 18 = .ok (.iload_n 1, 1) := by decide +kernel
theorem dX4_send_19 : decode cX4_send 19 = .ok (.iload_n 2, 1) := by decide +kernel
theorem dX4_send_20 : decode cX4_send 20 = .ok (.invokevirtual 167, 3) := by decide +kernel
theorem dX4_send_23 : decode cX4_send 23 = .ok (.ifCond .eq 18, 3) := by decide +kernel
theorem dX4_send_26 : decode cX4_send 26 = .ok (.aload_n 0, 1) := by decide +kernel
theorem dX4_send_27 : decode cX4_send 27 = .ok (.getfield 85, 3) := by decide +kernel
theorem dX4_send_30 : decode cX4_send 30 = .ok (.iload_n 2, 1) := by decide +kernel
theorem dX4_send_31 : decode cX4_send 31 = .ok (.iaload, 1) := by decide +kernel
theorem dX4_send_32 : decode cX4_send 32 = .ok (.aload_n 0, 1) := by decide +kernel
theorem dX4_send_33 : decode cX4_send 33 = .ok (.getfield 82, 3) := by decide +kernel
theorem dX4_send_36 : decode cX4_send 36 = .ok (.iload_n 2, 1) := by decide +kernel
theorem dX4_send_37 : decode cX4_send 37 = .ok (.iaload, 1) := by decide +kernel
theorem dX4_send_38 : decode cX4_send 38 = .ok (.if_icmp .ne 7, 3) := by decide +kernel
theorem dX4_send_41 : decode cX4_send 41 = .ok (.iconst 2, 1) := by decide +kernel
theorem dX4_send_42 : decode cX4_send 42 = .ok (.goto 4, 3) := by decide +kernel
theorem dX4_send_45 : decode cX4_send 45 = .ok (.iconst 0, 1) := by decide +kernel
theorem dX4_send_46 : decode cX4_send 46 = .ok (.invokevirtual 98, 3) := by decide +kernel
theorem dX4_send_49 : decode cX4_send 49 = .ok (.ifCond .eq 5, 3) := by decide +kernel
theorem dX4_send_52 : decode cX4_send 52 = .ok (.iconst 0, 1) := by decide +kernel
theorem dX4_send_53 : decode cX4_send 53 = .ok (.ireturn, 1) := by decide +kernel
theorem dX4_send_54 : decode cX4_send 54 = .ok (.aload_n 0, 1) := by decide +kernel
theorem dX4_send_55 : decode cX4_send 55 = .ok (.getfield 63, 3) := by decide +kernel
theorem dX4_send_58 : decode cX4_send 58 = .ok (.iload_n 1, 1) := by decide +kernel
theorem dX4_send_59 : decode cX4_send 59 = .ok (.iconst 1, 1) := by decide +kernel
theorem dX4_send_60 : decode cX4_send 60 = .ok (.bastore, 1) := by decide +kernel
theorem dX4_send_61 : decode cX4_send 61 = .ok (.aload_n 0, 1) := by decide +kernel
theorem dX4_send_62 : decode cX4_send 62 = .ok (.getfield 85, 3) := by decide +kernel
theorem dX4_send_65 : decode cX4_send 65 = .ok (.iload_n 2, 1) := by decide +kernel
theorem dX4_send_66 : decode cX4_send 66 = .ok (.dup2, 1) := by decide +kernel
theorem dX4_send_67 : decode cX4_send 67 = .ok (.iaload, 1) := by decide +kernel
theorem dX4_send_68 : decode cX4_send 68 = .ok (.iconst 1, 1) := by decide +kernel
theorem dX4_send_69 : decode cX4_send 69 = .ok (.iadd, 1) := by decide +kernel
theorem dX4_send_70 : decode cX4_send 70 = .ok (.iastore, 1) := by decide +kernel
theorem dX4_send_71 : decode cX4_send 71 = .ok (.aload_n 0, 1) := by decide +kernel
theorem dX4_send_72 : decode cX4_send 72 = .ok (.getfield 85, 3) := by decide +kernel
theorem dX4_send_75 : decode cX4_send 75 = .ok (.iload_n 2, 1) := by decide +kernel
theorem dX4_send_76 : decode cX4_send 76 = .ok (.iaload, 1) := by decide +kernel
theorem dX4_send_77 : decode cX4_send 77 = .ok (.ireturn, 1) := by decide +kernel
theorem dX4_sent_0 : decode cX4_sent 0 = .ok (.aload_n 0, 1) := by decide +kernel
theorem dX4_sent_1 : decode cX4_sent 1 = .ok (.iload_n 1, 1) := by decide +kernel
theorem dX4_sent_2 : decode cX4_sent 2 = .ok (.invokevirtual 164, 3) := by decide +kernel
theorem dX4_sent_5 : decode cX4_sent 5 = .ok (.ifCond .eq 7, 3) := by decide +kernel
theorem dX4_sent_8 : decode cX4_sent 8 = .ok (.iconst 0, 1) := by decide +kernel
theorem dX4_sent_9 : decode cX4_sent 9 = .ok (.goto 9, 3) := by decide +kernel
theorem dX4_sent_12 : decode cX4_sent 12 = .ok (.aload_n 0, 1) := by decide +kernel
theorem dX4_sent_13 : decode cX4_sent 13 = .ok (.getfield 85, 3) := by decide +kernel
theorem dX4_sent_16 : decode cX4_sent 16 = .ok (.iload_n 1, 1) := by decide +kernel
theorem dX4_sent_17 : decode cX4_sent 17 = .ok (.iaload, 1) := by decide +kernel
theorem dX4_sent_18 : decode cX4_sent 18 = .ok (.ireturn, 1) := by decide +kernel
theorem dX4_wornShare_0 : decode cX4_wornShare 0 = .ok (.iconst 0, 1) := by decide +kernel
theorem dX4_wornShare_1 : decode cX4_wornShare 1 = .ok (.istore_n 1, 1) := by decide +kernel
theorem dX4_wornShare_2 : decode cX4_wornShare 2 = .ok (.iconst 0, 1) := by decide +kernel
theorem dX4_wornShare_3 : decode cX4_wornShare 3 = .ok (.istore_n 2, 1) := by decide +kernel
theorem dX4_wornShare_4 : decode cX4_wornShare 4 = .ok (.iconst 0, 1) := by decide +kernel
theorem dX4_wornShare_5 : decode cX4_wornShare 5 = .ok (.istore_n 3, 1) := by decide +kernel
theorem dX4_wornShare_6 : decode cX4_wornShare 6 = .ok (.iload_n 3, 1) := by decide +kernel
theorem dX4_wornShare_7 : decode cX4_wornShare 7 = .ok (.aload_n 0, 1) := by decide +kernel
theorem dX4_wornShare_8 : decode cX4_wornShare 8 = .ok (.getfield 91, 3) := by decide +kernel
theorem dX4_wornShare_11 : decode cX4_wornShare 11 = .ok (.if_icmp .ge 52, 3) := by decide +kernel
theorem dX4_wornShare_14 : decode cX4_wornShare 14 = .ok (.iload_n 1, 1) := by decide +kernel
theorem dX4_wornShare_15 : decode cX4_wornShare 15 = .ok (.aload_n 0, 1) := by decide +kernel
theorem dX4_wornShare_16 : decode cX4_wornShare 16 = .ok (.getfield 63, 3) := by decide +kernel
theorem dX4_wornShare_19 : decode cX4_wornShare 19 = .ok (.iload_n 3, 1) := by decide +kernel
theorem dX4_wornShare_20 : decode cX4_wornShare 20 = .ok (.baload, 1) := by decide +kernel
theorem dX4_wornShare_21 : decode cX4_wornShare 21 = .ok (.ifCond .eq 7, 3) := by decide +kernel
theorem dX4_wornShare_24 : decode cX4_wornShare 24 = .ok (.iconst 0, 1) := by decide +kernel
theorem dX4_wornShare_25 : decode cX4_wornShare 25 = .ok (.goto 8, 3) := by decide +kernel
theorem dX4_wornShare_28 : decode cX4_wornShare 28 = .ok (.aload_n 0, 1) := by decide +kernel
theorem dX4_wornShare_29 : decode cX4_wornShare 29 = .ok (.iload_n 3, 1) := by decide +kernel
theorem dX4_wornShare_30 : decode cX4_wornShare 30 = .ok (.invokevirtual 158, 3) := by decide +kernel
theorem dX4_wornShare_33 : decode cX4_wornShare 33 = .ok (.iadd, 1) := by decide +kernel
theorem dX4_wornShare_34 : decode cX4_wornShare 34 = .ok (.istore_n 1, 1) := by decide +kernel
theorem dX4_wornShare_35 : decode cX4_wornShare 35 = .ok (.iload_n 2, 1) := by decide +kernel
theorem dX4_wornShare_36 : decode cX4_wornShare 36 = .ok (.aload_n 0, 1) := by decide +kernel
theorem dX4_wornShare_37 : decode cX4_wornShare 37 = .ok (.getfield 63, 3) := by decide +kernel
theorem dX4_wornShare_40 : decode cX4_wornShare 40 = .ok (.iload_n 3, 1) := by decide +kernel
theorem dX4_wornShare_41 : decode cX4_wornShare 41 = .ok (.baload, 1) := by decide +kernel
theorem dX4_wornShare_42 : decode cX4_wornShare 42 = .ok (.ifCond .eq 7, 3) := by decide +kernel
theorem dX4_wornShare_45 : decode cX4_wornShare 45 = .ok (.iconst 0, 1) := by decide +kernel
theorem dX4_wornShare_46 : decode cX4_wornShare 46 = .ok (.goto 9, 3) := by decide +kernel
theorem dX4_wornShare_49 : decode cX4_wornShare 49 = .ok (.aload_n 0, 1) := by decide +kernel
theorem dX4_wornShare_50 : decode cX4_wornShare 50 = .ok (.getfield 53, 3) := by decide +kernel
theorem dX4_wornShare_53 : decode cX4_wornShare 53 = .ok (.iload_n 3, 1) := by decide +kernel
theorem dX4_wornShare_54 : decode cX4_wornShare 54 = .ok (.iaload, 1) := by decide +kernel
theorem dX4_wornShare_55 : decode cX4_wornShare 55 = .ok (.iadd, 1) := by decide +kernel
theorem dX4_wornShare_56 : decode cX4_wornShare 56 = .ok (.istore_n 2, 1) := by decide +kernel
theorem dX4_wornShare_57 : decode cX4_wornShare 57 = .ok (.iinc 3 1, 3) := by decide +kernel
theorem dX4_wornShare_60 : decode cX4_wornShare 60 = .ok (.goto (-54), 3) := by decide +kernel
theorem dX4_wornShare_63 : decode cX4_wornShare 63 = .ok (.aload_n 0, 1) := by decide +kernel
theorem dX4_wornShare_64 : decode cX4_wornShare 64 = .ok (.iload_n 2, 1) := by decide +kernel
theorem dX4_wornShare_65 : decode cX4_wornShare 65 = .ok (.ifCond .ne 7, 3) := by decide +kernel
theorem dX4_wornShare_68 : decode cX4_wornShare 68 = .ok (.iconst 1, 1) := by decide +kernel
theorem dX4_wornShare_69 : decode cX4_wornShare 69 = .ok (.goto 4, 3) := by decide +kernel
theorem dX4_wornShare_72 : decode cX4_wornShare 72 = .ok (.iconst 0, 1) := by decide +kernel
theorem dX4_wornShare_73 : decode cX4_wornShare 73 = .ok (.invokevirtual 98, 3) := by decide +kernel
theorem dX4_wornShare_76 : decode cX4_wornShare 76 = .ok (.ifCond .eq 7, 3) := by decide +kernel
theorem dX4_wornShare_79 : decode cX4_wornShare 79 = .ok (.fconst 0, 1) := by decide +kernel
theorem dX4_wornShare_80 : decode cX4_wornShare 80 = .ok (.goto 8, 3) := by decide +kernel
theorem dX4_wornShare_83 : decode cX4_wornShare 83 = .ok (.iload_n 1, 1) := by decide +kernel
theorem dX4_wornShare_84 : decode cX4_wornShare 84 = .ok (.i2f, 1) := by decide +kernel
theorem dX4_wornShare_85 : decode cX4_wornShare 85 = .ok (.iload_n 2, 1) := by decide +kernel
theorem dX4_wornShare_86 : decode cX4_wornShare 86 = .ok (.i2f, 1) := by decide +kernel
theorem dX4_wornShare_87 : decode cX4_wornShare 87 = .ok (.fdiv, 1) := by decide +kernel
theorem dX4_wornShare_88 : decode cX4_wornShare 88 = .ok (.freturn, 1) := by decide +kernel
theorem dX4_meanHardness_0 : decode cX4_meanHardness 0 = .ok (.iconst 0, 1) := by decide +kernel
theorem dX4_meanHardness_1 : decode cX4_meanHardness 1 = .ok (.istore_n 1, 1) := by decide +kernel
theorem dX4_meanHardness_2 : decode cX4_meanHardness 2 = .ok (.iconst 0, 1) := by decide +kernel
theorem dX4_meanHardness_3 : decode cX4_meanHardness 3 = .ok (.istore_n 2, 1) := by decide +kernel
theorem dX4_meanHardness_4 : decode cX4_meanHardness 4 = .ok (.iconst 0, 1) := by decide +kernel
theorem dX4_meanHardness_5 : decode cX4_meanHardness 5 = .ok (.istore_n 3, 1) := by decide +kernel
theorem dX4_meanHardness_6 : decode cX4_meanHardness 6 = .ok (.iload_n 3, 1) := by decide +kernel
theorem dX4_meanHardness_7 : decode cX4_meanHardness 7 = .ok (.aload_n 0, 1) := by decide +kernel
theorem dX4_meanHardness_8 : decode cX4_meanHardness 8 = .ok (.getfield 91, 3) := by decide +kernel
theorem dX4_meanHardness_11 : decode cX4_meanHardness 11 = .ok (.if_icmp .ge 67, 3) := by decide +kernel
theorem dX4_meanHardness_14 : decode cX4_meanHardness 14 = .ok (.aload_n 0, 1) := by decide +kernel
theorem dX4_meanHardness_15 : decode cX4_meanHardness 15 = .ok (.getfield 63, 3) := by decide +kernel
theorem dX4_meanHardness_18 : decode cX4_meanHardness 18 = .ok (.iload_n 3, 1) := by decide +kernel
theorem dX4_meanHardness_19 : decode cX4_meanHardness 19 = .ok (.baload, 1) := by decide +kernel
theorem dX4_meanHardness_20 : decode cX4_meanHardness 20 = .ok (.ifCond .ne 18, 3) := by decide +kernel
theorem dX4_meanHardness_23 : decode cX4_meanHardness 23 = .ok (.aload_n 0, 1) := by decide +kernel
theorem dX4_meanHardness_24 : decode cX4_meanHardness 24 = .ok (.getfield 16, 3) := by decide +kernel
theorem dX4_meanHardness_27 : decode cX4_meanHardness 27 = .ok (.iload_n 3, 1) := by decide +kernel
theorem dX4_meanHardness_28 : decode cX4_meanHardness 28 = .ok (.caload, 1) := by decide +kernel
theorem dX4_meanHardness_29 : decode cX4_meanHardness 29 = .ok (.bipush 104, 2) := by decide +kernel
theorem dX4_meanHardness_31 : decode cX4_meanHardness 31 = .ok (.if_icmp .ne 7, 3) := by decide +kernel
theorem dX4_meanHardness_34 : decode cX4_meanHardness 34 = .ok (.iconst 1, 1) := by decide +kernel
theorem dX4_meanHardness_35 : decode cX4_meanHardness 35 = .ok (.goto 4, 3) := by decide +kernel
theorem dX4_meanHardness_38 : decode cX4_meanHardness 38 = .ok (.iconst 0, 1) := by decide +kernel
theorem dX4_meanHardness_39 : decode cX4_meanHardness 39 = .ok (.istore 4, 2) := by decide +kernel
theorem dX4_meanHardness_41 : decode cX4_meanHardness 41 = .ok (.iload_n 1, 1) := by decide +kernel
theorem dX4_meanHardness_42 : decode cX4_meanHardness 42 = .ok (.iload 4, 2) := by decide +kernel
theorem dX4_meanHardness_44 : decode cX4_meanHardness 44 = .ok (.ifCond .eq 12, 3) := by decide +kernel
theorem dX4_meanHardness_47 : decode cX4_meanHardness 47 = .ok (.aload_n 0, 1) := by decide +kernel
theorem dX4_meanHardness_48 : decode cX4_meanHardness 48 = .ok (.getfield 35, 3) := by decide +kernel
theorem dX4_meanHardness_51 : decode cX4_meanHardness 51 = .ok (.iload_n 3, 1) := by decide +kernel
theorem dX4_meanHardness_52 : decode cX4_meanHardness 52 = .ok (.iaload, 1) := by decide +kernel
theorem dX4_meanHardness_53 : decode cX4_meanHardness 53 = .ok (.goto 4, 3) := by decide +kernel
theorem dX4_meanHardness_56 : decode cX4_meanHardness 56 = .ok (.iconst 0, 1) := by decide +kernel
theorem dX4_meanHardness_57 : decode cX4_meanHardness 57 = .ok (.iadd, 1) := by decide +kernel
theorem dX4_meanHardness_58 : decode cX4_meanHardness 58 = .ok (.istore_n 1, 1) := by decide +kernel
theorem dX4_meanHardness_59 : decode cX4_meanHardness 59 = .ok (.iload_n 2, 1) := by decide +kernel
theorem dX4_meanHardness_60 : decode cX4_meanHardness 60 = .ok (.iload 4, 2) := by decide +kernel
theorem dX4_meanHardness_62 : decode cX4_meanHardness 62 = .ok (.ifCond .eq 7, 3) := by decide +kernel
theorem dX4_meanHardness_65 : decode cX4_meanHardness 65 = .ok (.iconst 1, 1) := by decide +kernel
theorem dX4_meanHardness_66 : decode cX4_meanHardness 66 = .ok (.goto 4, 3) := by decide +kernel
theorem dX4_meanHardness_69 : decode cX4_meanHardness 69 = .ok (.iconst 0, 1) := by decide +kernel
theorem dX4_meanHardness_70 : decode cX4_meanHardness 70 = .ok (.iadd, 1) := by decide +kernel
theorem dX4_meanHardness_71 : decode cX4_meanHardness 71 = .ok (.istore_n 2, 1) := by decide +kernel
theorem dX4_meanHardness_72 : decode cX4_meanHardness 72 = .ok (.iinc 3 1, 3) := by decide +kernel
theorem dX4_meanHardness_75 : decode cX4_meanHardness 75 = .ok (.goto (-69), 3) := by decide +kernel
theorem dX4_meanHardness_78 : decode cX4_meanHardness 78 = .ok (.aload_n 0, 1) := by decide +kernel
theorem dX4_meanHardness_79 : decode cX4_meanHardness 79 = .ok (.iload_n 2, 1) := by decide +kernel
theorem dX4_meanHardness_80 : decode cX4_meanHardness 80 = .ok (.ifCond .ne 7, 3) := by decide +kernel
theorem dX4_meanHardness_83 : decode cX4_meanHardness 83 = .ok (.iconst 1, 1) := by decide +kernel
theorem dX4_meanHardness_84 : decode cX4_meanHardness 84 = .ok (.goto 4, 3) := by decide +kernel
theorem dX4_meanHardness_87 : decode cX4_meanHardness 87 = .ok (.iconst 0, 1) := by decide +kernel
theorem dX4_meanHardness_88 : decode cX4_meanHardness 88 = .ok (.invokevirtual 98, 3) := by decide +kernel
theorem dX4_meanHardness_91 : decode cX4_meanHardness 91 = .ok (.ifCond .eq 7, 3) := by decide +kernel
theorem dX4_meanHardness_94 : decode cX4_meanHardness 94 = .ok (.dconst 0, 1) := by decide +kernel
theorem dX4_meanHardness_95 : decode cX4_meanHardness 95 = .ok (.goto 8, 3) := by decide +kernel
theorem dX4_meanHardness_98 : decode cX4_meanHardness 98 = .ok (.iload_n 1, 1) := by decide +kernel
theorem dX4_meanHardness_99 : decode cX4_meanHardness 99 = .ok (.i2d, 1) := by decide +kernel
theorem dX4_meanHardness_100 : decode cX4_meanHardness 100 = .ok (.iload_n 2, 1) := by decide +kernel
theorem dX4_meanHardness_101 : decode cX4_meanHardness 101 = .ok (.i2d, 1) := by decide +kernel
theorem dX4_meanHardness_102 : decode cX4_meanHardness 102 = .ok (.ddiv, 1) := by decide +kernel
theorem dX4_meanHardness_103 : decode cX4_meanHardness 103 = .ok (.dreturn, 1) := by decide +kernel
theorem dX4_checksum_0 : decode cX4_checksum 0 = .ok (.aload_n 0, 1) := by decide +kernel
theorem dX4_checksum_1 : decode cX4_checksum 1 = .ok (.iconst 0, 1) := by decide +kernel
theorem dX4_checksum_2 : decode cX4_checksum 2 = .ok (.putfield 88, 3) := by decide +kernel
theorem dX4_checksum_5 : decode cX4_checksum 5 = .ok (.ldc2_w 170, 3) := by decide +kernel
theorem dX4_checksum_8 : decode cX4_checksum 8 = .ok (.lstore_n 1, 1) := by decide +kernel
theorem dX4_checksum_9 : decode cX4_checksum 9 = .ok (.iconst 0, 1) := by decide +kernel
theorem dX4_checksum_10 : decode cX4_checksum 10 = .ok (.istore_n 3, 1) := by decide +kernel
theorem dX4_checksum_11 : decode cX4_checksum 11 = .ok (.iload_n 3, 1) := by decide +kernel
theorem dX4_checksum_12 : decode cX4_checksum 12 = .ok (.aload_n 0, 1) := by decide +kernel
theorem dX4_checksum_13 : decode cX4_checksum 13 = .ok (.getfield 91, 3) := by decide +kernel
theorem dX4_checksum_16 : decode cX4_checksum 16 = .ok (.if_icmp .ge 102, 3) := by decide +kernel
theorem dX4_checksum_19 : decode cX4_checksum 19 = .ok (.aload_n 0, 1) := by decide +kernel
theorem dX4_checksum_20 : decode cX4_checksum 20 = .ok (.getfield 63, 3) := by decide +kernel
theorem dX4_checksum_23 : decode cX4_checksum 23 = .ok (.iload_n 3, 1) := by decide +kernel
theorem dX4_checksum_24 : decode cX4_checksum 24 = .ok (.baload, 1) := by decide +kernel
theorem dX4_checksum_25 : decode cX4_checksum 25 = .ok (.ifCond .eq 6, 3) := by decide +kernel
theorem dX4_checksum_28 : decode cX4_checksum 28 = .ok (.goto 84, 3) := by decide +kernel
theorem dX4_checksum_31 : decode cX4_checksum 31 = .ok (.ldc2_w 172, 3) := by decide +kernel
theorem dX4_checksum_34 : decode cX4_checksum 34 = .ok (.ldc2_w 172, 3) := by decide +kernel
theorem dX4_checksum_37 : decode cX4_checksum 37 = .ok (.ldc2_w 172, 3) := by decide +kernel
theorem dX4_checksum_40 : decode cX4_checksum 40 = .ok (.lload_n 1, 1) := by decide +kernel
theorem dX4_checksum_41 : decode cX4_checksum 41 = .ok (.lmul, 1) := by decide +kernel
theorem dX4_checksum_42 : decode cX4_checksum 42 = .ok (.aload_n 0, 1) := by decide +kernel
theorem dX4_checksum_43 : decode cX4_checksum 43 = .ok (.getfield 23, 3) := by decide +kernel
theorem dX4_checksum_46 : decode cX4_checksum 46 = .ok (.iload_n 3, 1) := by decide +kernel
theorem dX4_checksum_47 : decode cX4_checksum 47 = .ok (.iaload, 1) := by decide +kernel
theorem dX4_checksum_48 : decode cX4_checksum 48 = .ok (.i2l, 1) := by decide +kernel
theorem dX4_checksum_49 : decode cX4_checksum 49 = .ok (.ladd, 1) := by decide +kernel
theorem dX4_checksum_50 : decode cX4_checksum 50 = .ok (.lmul, 1) := by decide +kernel
theorem dX4_checksum_51 : decode cX4_checksum 51 = .ok (.aload_n 0, 1) := by decide +kernel
theorem dX4_checksum_52 : decode cX4_checksum 52 = .ok (.getfield 35, 3) := by decide +kernel
theorem dX4_checksum_55 : decode cX4_checksum 55 = .ok (.iload_n 3, 1) := by decide +kernel
theorem dX4_checksum_56 : decode cX4_checksum 56 = .ok (.iaload, 1) := by decide +kernel
theorem dX4_checksum_57 : decode cX4_checksum 57 = .ok (.i2l, 1) := by decide +kernel
theorem dX4_checksum_58 : decode cX4_checksum 58 = .ok (.ladd, 1) := by decide +kernel
theorem dX4_checksum_59 : decode cX4_checksum 59 = .ok (.lmul, 1) := by decide +kernel
theorem dX4_checksum_60 : decode cX4_checksum 60 = .ok (.aload_n 0, 1) := by decide +kernel
theorem dX4_checksum_61 : decode cX4_checksum 61 = .ok (.getfield 38, 3) := by decide +kernel
theorem dX4_checksum_64 : decode cX4_checksum 64 = .ok (.iload_n 3, 1) := by decide +kernel
theorem dX4_checksum_65 : decode cX4_checksum 65 = .ok (.iaload, 1) := by decide +kernel
theorem dX4_checksum_66 : decode cX4_checksum 66 = .ok (.i2l, 1) := by decide +kernel
theorem dX4_checksum_67 : decode cX4_checksum 67 = .ok (.ladd, 1) := by decide +kernel
theorem dX4_checksum_68 : decode cX4_checksum 68 = .ok (.lstore_n 1, 1) := by decide +kernel
theorem dX4_checksum_69 : decode cX4_checksum 69 = .ok (.bipush 60, 2) := by decide +kernel
theorem dX4_checksum_71 : decode cX4_checksum 71 = .ok (.iload_n 3, 1) := by decide +kernel
theorem dX4_checksum_72 : decode cX4_checksum 72 = .ok (.imul, 1) := by decide +kernel
theorem dX4_checksum_73 : decode cX4_checksum 73 = .ok (.istore 4, 2) := by decide +kernel
theorem dX4_checksum_75 : decode cX4_checksum 75 = .ok (.iload 4, 2) := by decide +kernel
theorem dX4_checksum_77 : decode cX4_checksum 77 = .ok (.bipush 60, 2) := by decide +kernel
theorem dX4_checksum_79 : decode cX4_checksum 79 = .ok (.iload_n 3, 1) := by decide +kernel
theorem dX4_checksum_80 : decode cX4_checksum 80 = .ok (.imul, 1) := by decide +kernel
theorem dX4_checksum_81 : decode cX4_checksum 81 = .ok (.aload_n 0, 1) := by decide +kernel
theorem dX4_checksum_82 : decode cX4_checksum 82 = .ok (.getfield 53, 3) := by decide +kernel
theorem dX4_checksum_85 : decode cX4_checksum 85 = .ok (.iload_n 3, 1) := by decide +kernel
theorem dX4_checksum_86 : decode cX4_checksum 86 = .ok (.iaload, 1) := by decide +kernel
theorem dX4_checksum_87 : decode cX4_checksum 87 = .ok (.iadd, 1) := by decide +kernel
theorem dX4_checksum_88 : decode cX4_checksum 88 = .ok (.if_icmp .ge 24, 3) := by decide +kernel
theorem dX4_checksum_91 : decode cX4_checksum 91 = .ok (.ldc2_w 172, 3) := by decide +kernel
theorem dX4_checksum_94 : decode cX4_checksum 94 = .ok (.lload_n 1, 1) := by decide +kernel
theorem dX4_checksum_95 : decode cX4_checksum 95 = .ok (.lmul, 1) := by decide +kernel
theorem dX4_checksum_96 : decode cX4_checksum 96 = .ok (.aload_n 0, 1) := by decide +kernel
theorem dX4_checksum_97 : decode cX4_checksum 97 = .ok (.getfield 66, 3) := by decide +kernel
theorem dX4_checksum_100 : decode cX4_checksum 100 = .ok (.iload 4, 2) := by decide +kernel
theorem dX4_checksum_102 : decode cX4_checksum 102 = .ok (.iaload, 1) := by decide +kernel
theorem dX4_checksum_103 : decode cX4_checksum 103 = .ok (.i2l, 1) := by decide +kernel
theorem dX4_checksum_104 : decode cX4_checksum 104 = .ok (.ladd, 1) := by decide +kernel
theorem dX4_checksum_105 : decode cX4_checksum 105 = .ok (.lstore_n 1, 1) := by decide +kernel
theorem dX4_checksum_106 : decode cX4_checksum 106 = .ok (.iinc 4 1, 3) := by decide +kernel
theorem dX4_checksum_109 : decode cX4_checksum 109 = .ok (.goto (-34), 3) := by decide +kernel
theorem dX4_checksum_112 : decode cX4_checksum 112 = .ok (.iinc 3 1, 3) := by decide +kernel
theorem dX4_checksum_115 : decode cX4_checksum 115 = .ok (.goto (-104), 3) := by decide +kernel
theorem dX4_checksum_118 : decode cX4_checksum 118 = .ok (.ldc2_w 172, 3) := by decide +kernel
theorem dX4_checksum_121 : decode cX4_checksum 121 = .ok (.lload_n 1, 1) := by decide +kernel
theorem dX4_checksum_122 : decode cX4_checksum 122 = .ok (.lmul, 1) := by decide +kernel
theorem dX4_checksum_123 : decode cX4_checksum 123 = .ok (.aload_n 0, 1) := by decide +kernel
theorem dX4_checksum_124 : decode cX4_checksum 124 = .ok (.getfield 72, 3) := by decide +kernel
theorem dX4_checksum_127 : decode cX4_checksum 127 = .ok (.i2l, 1) := by decide +kernel
theorem dX4_checksum_128 : decode cX4_checksum 128 = .ok (.ladd, 1) := by decide +kernel
theorem dX4_checksum_129 : decode cX4_checksum 129 = .ok (.lreturn, 1) := by decide +kernel
theorem dX4_isSound_0 : decode cX4_isSound 0 = .ok (.aload_n 0, 1) := by decide +kernel
theorem dX4_isSound_1 : decode cX4_isSound 1 = .ok (.iconst 0, 1) := by decide +kernel
theorem dX4_isSound_2 : decode cX4_isSound 2 = .ok (.putfield 88, 3) := by decide +kernel
theorem dX4_isSound_5 : decode cX4_isSound 5 = .ok (.iconst 1, 1) := by decide +kernel
theorem dX4_isSound_6 : decode cX4_isSound 6 = .ok (.ireturn, 1) := by decide +kernel
theorem dL_blank_0 : decode cL_blank 0 = .ok (.aload 5, 2) := by decide +kernel
theorem dL_blank_2 : decode cL_blank 2 = .ok (.iconst 0, 1) := by decide +kernel
theorem dL_blank_3 : decode cL_blank 3 = .ok (.aload_n 0, 1) := by decide +kernel
theorem dL_blank_4 : decode cL_blank 4 = .ok (.iload_n 1, 1) := by decide +kernel
theorem dL_blank_5 : decode cL_blank 5 = .ok (.iload_n 2, 1) := by decide +kernel
theorem dL_blank_6 : decode cL_blank 6 = .ok (.iload_n 3, 1) := by decide +kernel
theorem dL_blank_7 : decode cL_blank 7 = .ok (.iload 4, 2) := by decide +kernel
theorem dL_blank_9 : decode cL_blank 9 = .ok (.invokevirtual 7, 3) := by decide +kernel
theorem dL_blank_12 : decode cL_blank 12 = .ok (.i2l, 1) := by decide +kernel
theorem dL_blank_13 : decode cL_blank 13 = .ok (.lastore, 1) := by decide +kernel
theorem dL_blank_14 : decode cL_blank 14 = .ok (.goto 11, 3) := by decide +kernel
theorem dL_blank_17 : decode cL_blank 17 = .ok (.astore 6, 2) := by decide +kernel
theorem dL_blank_19 : decode cL_blank 19 = .ok (.iconst 1, 1) := by decide +kernel
theorem dL_blank_20 : decode cL_blank 20 = .ok (.ireturn, 1) := by decide +kernel
theorem dL_blank_21 : decode cL_blank 21 = .ok (.astore 6, 2) := by decide +kernel
theorem dL_blank_23 : decode cL_blank 23 = .ok (.iconst 2, 1) := by decide +kernel
theorem dL_blank_24 : decode cL_blank 24 = .ok (.ireturn, 1) := by decide +kernel
theorem dL_blank_25 : decode cL_blank 25 = .ok (.iconst 0, 1) := by decide +kernel
theorem dL_blank_26 : decode cL_blank 26 = .ok (.ireturn, 1) := by decide +kernel
theorem dL_cut_0 : decode cL_cut 0 = .ok (.aload 4, 2) := by decide +kernel
theorem dL_cut_2 : decode cL_cut 2 = .ok (.iconst 0, 1) := by decide +kernel
theorem dL_cut_3 : decode cL_cut 3 = .ok (.aload_n 0, 1) := by decide +kernel
theorem dL_cut_4 : decode cL_cut 4 = .ok (.iload_n 1, 1) := by decide +kernel
theorem dL_cut_5 : decode cL_cut 5 = .ok (.iload_n 2, 1) := by decide +kernel
theorem dL_cut_6 : decode cL_cut 6 = .ok (.iload_n 3, 1) := by decide +kernel
theorem dL_cut_7 : decode cL_cut 7 = .ok (.invokevirtual 17, 3) := by decide +kernel
theorem dL_cut_10 : decode cL_cut 10 = .ok (.i2l, 1) := by decide +kernel
theorem dL_cut_11 : decode cL_cut 11 = .ok (.lastore, 1) := by decide +kernel
theorem dL_cut_12 : decode cL_cut 12 = .ok (.goto 15, 3) := by decide +kernel
theorem dL_cut_15 : decode cL_cut 15 = .ok (.astore 5, 2) := by decide +kernel
theorem dL_cut_17 : decode cL_cut 17 = .ok (.iconst 1, 1) := by decide +kernel
theorem dL_cut_18 : decode cL_cut 18 = .ok (.ireturn, 1) := by decide +kernel
theorem dL_cut_19 : decode cL_cut 19 = .ok (.astore 5, 2) := by decide +kernel
theorem dL_cut_21 : decode cL_cut 21 = .ok (.iconst 2, 1) := by decide +kernel
theorem dL_cut_22 : decode cL_cut 22 = .ok (.ireturn, 1) := by decide +kernel
theorem dL_cut_23 : decode cL_cut 23 = .ok (.astore 5, 2) := by decide +kernel
theorem dL_cut_25 : decode cL_cut 25 = .ok (.iconst 3, 1) := by decide +kernel
theorem dL_cut_26 : decode cL_cut 26 = .ok (.ireturn, 1) := by decide +kernel
theorem dL_cut_27 : decode cL_cut 27 = .ok (.iconst 0, 1) := by decide +kernel
theorem dL_cut_28 : decode cL_cut 28 = .ok (.ireturn, 1) := by decide +kernel
theorem dL_upcut_0 : decode cL_upcut 0 = .ok (.aload_n 2, 1) := by decide +kernel
theorem dL_upcut_1 : decode cL_upcut 1 = .ok (.iconst 0, 1) := by decide +kernel
theorem dL_upcut_2 : decode cL_upcut 2 = .ok (.aload_n 0, 1) := by decide +kernel
theorem dL_upcut_3 : decode cL_upcut 3 = .ok (.iload_n 1, 1) := by decide +kernel
theorem dL_upcut_4 : decode cL_upcut 4 = .ok (.invokevirtual 25, 3) := by decide +kernel
theorem dL_upcut_7 : decode cL_upcut 7 = .ok (.i2l, 1) := by decide +kernel
theorem dL_upcut_8 : decode cL_upcut 8 = .ok (.lastore, 1) := by decide +kernel
theorem dL_upcut_9 : decode cL_upcut 9 = .ok (.goto 9, 3) := by decide +kernel
theorem dL_upcut_12 : decode cL_upcut 12 = .ok (.astore_n 3, 1) := by decide +kernel
theorem dL_upcut_13 : decode cL_upcut 13 = .ok (.iconst 1, 1) := by decide +kernel
theorem dL_upcut_14 : decode cL_upcut 14 = .ok (.ireturn, 1) := by decide +kernel
theorem dL_upcut_15 : decode cL_upcut 15 = .ok (.astore_n 3, 1) := by decide +kernel
theorem dL_upcut_16 : decode cL_upcut 16 = .ok (.iconst 2, 1) := by decide +kernel
theorem dL_upcut_17 : decode cL_upcut 17 = .ok (.ireturn, 1) := by decide +kernel
theorem dL_upcut_18 : decode cL_upcut 18 = .ok (.iconst 0, 1) := by decide +kernel
theorem dL_upcut_19 : decode cL_upcut 19 = .ok (.ireturn, 1) := by decide +kernel
theorem dL_teeth_0 : decode cL_teeth 0 = .ok (.aload_n 2, 1) := by decide +kernel
theorem dL_teeth_1 : decode cL_teeth 1 = .ok (.iconst 0, 1) := by decide +kernel
theorem dL_teeth_2 : decode cL_teeth 2 = .ok (.aload_n 0, 1) := by decide +kernel
theorem dL_teeth_3 : decode cL_teeth 3 = .ok (.iload_n 1, 1) := by decide +kernel
theorem dL_teeth_4 : decode cL_teeth 4 = .ok (.invokevirtual 29, 3) := by decide +kernel
theorem dL_teeth_7 : decode cL_teeth 7 = .ok (.i2l, 1) := by decide +kernel
theorem dL_teeth_8 : decode cL_teeth 8 = .ok (.lastore, 1) := by decide +kernel
theorem dL_teeth_9 : decode cL_teeth 9 = .ok (.goto 6, 3) := by decide +kernel
theorem dL_teeth_12 : decode cL_teeth 12 = .ok (.astore_n 3, 1) := by decide +kernel
theorem dL_teeth_13 : decode cL_teeth 13 = .ok (.iconst 1, 1) := by decide +kernel
theorem dL_teeth_14 : decode cL_teeth 14 = .ok (.ireturn, 1) := by decide +kernel
theorem dL_teeth_15 : decode cL_teeth 15 = .ok (.iconst 0, 1) := by decide +kernel
theorem dL_teeth_16 : decode cL_teeth 16 = .ok (.ireturn, 1) := by decide +kernel
theorem dL_place_0 : decode cL_place 0 = .ok (.aload_n 3, 1) := by decide +kernel
theorem dL_place_1 : decode cL_place 1 = .ok (.iconst 0, 1) := by decide +kernel
theorem dL_place_2 : decode cL_place 2 = .ok (.aload_n 0, 1) := by decide +kernel
theorem dL_place_3 : decode cL_place 3 = .ok (.iload_n 1, 1) := by decide +kernel
theorem dL_place_4 : decode cL_place 4 = .ok (.iload_n 2, 1) := by decide +kernel
theorem dL_place_5 : decode cL_place 5 = .ok (.invokevirtual 32, 3) := by decide +kernel
theorem dL_place_8 : decode cL_place 8 = .ok (.i2l, 1) := by decide +kernel
theorem dL_place_9 : decode cL_place 9 = .ok (.lastore, 1) := by decide +kernel
theorem dL_place_10 : decode cL_place 10 = .ok (.goto 11, 3) := by decide +kernel
theorem dL_place_13 : decode cL_place 13 = .ok (.astore 4, 2) := by decide +kernel
theorem dL_place_15 : decode cL_place 15 = .ok (.iconst 1, 1) := by decide +kernel
theorem dL_place_16 : decode cL_place 16 = .ok (.ireturn, 1) := by decide +kernel
theorem dL_place_17 : decode cL_place 17 = .ok (.astore 4, 2) := by decide +kernel
theorem dL_place_19 : decode cL_place 19 = .ok (.iconst 2, 1) := by decide +kernel
theorem dL_place_20 : decode cL_place 20 = .ok (.ireturn, 1) := by decide +kernel
theorem dL_place_21 : decode cL_place 21 = .ok (.iconst 0, 1) := by decide +kernel
theorem dL_place_22 : decode cL_place 22 = .ok (.ireturn, 1) := by decide +kernel
theorem dL_height_0 : decode cL_height 0 = .ok (.aload_n 3, 1) := by decide +kernel
theorem dL_height_1 : decode cL_height 1 = .ok (.iconst 0, 1) := by decide +kernel
theorem dL_height_2 : decode cL_height 2 = .ok (.aload_n 0, 1) := by decide +kernel
theorem dL_height_3 : decode cL_height 3 = .ok (.iload_n 1, 1) := by decide +kernel
theorem dL_height_4 : decode cL_height 4 = .ok (.iload_n 2, 1) := by decide +kernel
theorem dL_height_5 : decode cL_height 5 = .ok (.invokevirtual 38, 3) := by decide +kernel
theorem dL_height_8 : decode cL_height 8 = .ok (.i2l, 1) := by decide +kernel
theorem dL_height_9 : decode cL_height 9 = .ok (.lastore, 1) := by decide +kernel
theorem dL_height_10 : decode cL_height 10 = .ok (.goto 11, 3) := by decide +kernel
theorem dL_height_13 : decode cL_height 13 = .ok (.astore 4, 2) := by decide +kernel
theorem dL_height_15 : decode cL_height 15 = .ok (.iconst 1, 1) := by decide +kernel
theorem dL_height_16 : decode cL_height 16 = .ok (.ireturn, 1) := by decide +kernel
theorem dL_height_17 : decode cL_height 17 = .ok (.astore 4, 2) := by decide +kernel
theorem dL_height_19 : decode cL_height 19 = .ok (.iconst 2, 1) := by decide +kernel
theorem dL_height_20 : decode cL_height 20 = .ok (.ireturn, 1) := by decide +kernel
theorem dL_height_21 : decode cL_height 21 = .ok (.iconst 0, 1) := by decide +kernel
theorem dL_height_22 : decode cL_height 22 = .ok (.ireturn, 1) := by decide +kernel
theorem dL_wear_0 : decode cL_wear 0 = .ok (.aload_n 3, 1) := by decide +kernel
theorem dL_wear_1 : decode cL_wear 1 = .ok (.iconst 0, 1) := by decide +kernel
theorem dL_wear_2 : decode cL_wear 2 = .ok (.aload_n 0, 1) := by decide +kernel
theorem dL_wear_3 : decode cL_wear 3 = .ok (.iload_n 1, 1) := by decide +kernel
theorem dL_wear_4 : decode cL_wear 4 = .ok (.iload_n 2, 1) := by decide +kernel
theorem dL_wear_5 : decode cL_wear 5 = .ok (.invokevirtual 41, 3) := by decide +kernel
theorem dL_wear_8 : decode cL_wear 8 = .ok (.i2l, 1) := by decide +kernel
theorem dL_wear_9 : decode cL_wear 9 = .ok (.lastore, 1) := by decide +kernel
theorem dL_wear_10 : decode cL_wear 10 = .ok (.goto 11, 3) := by decide +kernel
theorem dL_wear_13 : decode cL_wear 13 = .ok (.astore 4, 2) := by decide +kernel
theorem dL_wear_15 : decode cL_wear 15 = .ok (.iconst 1, 1) := by decide +kernel
theorem dL_wear_16 : decode cL_wear 16 = .ok (.ireturn, 1) := by decide +kernel
theorem dL_wear_17 : decode cL_wear 17 = .ok (.astore 4, 2) := by decide +kernel
theorem dL_wear_19 : decode cL_wear 19 = .ok (.iconst 2, 1) := by decide +kernel
theorem dL_wear_20 : decode cL_wear 20 = .ok (.ireturn, 1) := by decide +kernel
theorem dL_wear_21 : decode cL_wear 21 = .ok (.iconst 0, 1) := by decide +kernel
theorem dL_wear_22 : decode cL_wear 22 = .ok (.ireturn, 1) := by decide +kernel
theorem dL_sings_0 : decode cL_sings 0 = .ok (.aload_n 2, 1) := by decide +kernel
theorem dL_sings_1 : decode cL_sings 1 = .ok (.iconst 0, 1) := by decide +kernel
theorem dL_sings_2 : decode cL_sings 2 = .ok (.aload_n 0, 1) := by decide +kernel
theorem dL_sings_3 : decode cL_sings 3 = .ok (.iload_n 1, 1) := by decide +kernel
theorem dL_sings_4 : decode cL_sings 4 = .ok (.invokevirtual 44, 3) := by decide +kernel
theorem dL_sings_7 : decode cL_sings 7 = .ok (.ifCond .eq 7, 3) := by decide +kernel
theorem dL_sings_10 : decode cL_sings 10 = .ok (.lconst 1, 1) := by decide +kernel
theorem dL_sings_11 : decode cL_sings 11 = .ok (.goto 4, 3) := by decide +kernel
theorem dL_sings_14 : decode cL_sings 14 = .ok (.lconst 0, 1) := by decide +kernel
theorem dL_sings_15 : decode cL_sings 15 = .ok (.lastore, 1) := by decide +kernel
theorem dL_sings_16 : decode cL_sings 16 = .ok (.goto 6, 3) := by decide +kernel
theorem dL_sings_19 : decode cL_sings 19 = .ok (.astore_n 3, 1) := by decide +kernel
theorem dL_sings_20 : decode cL_sings 20 = .ok (.iconst 1, 1) := by decide +kernel
theorem dL_sings_21 : decode cL_sings 21 = .ok (.ireturn, 1) := by decide +kernel
theorem dL_sings_22 : decode cL_sings 22 = .ok (.iconst 0, 1) := by decide +kernel
theorem dL_sings_23 : decode cL_sings 23 = .ok (.ireturn, 1) := by decide +kernel
theorem dL_set_0 : decode cL_set 0 = .ok (.aload_n 3, 1) := by decide +kernel
theorem dL_set_1 : decode cL_set 1 = .ok (.iconst 0, 1) := by decide +kernel
theorem dL_set_2 : decode cL_set 2 = .ok (.aload_n 0, 1) := by decide +kernel
theorem dL_set_3 : decode cL_set 3 = .ok (.iload_n 1, 1) := by decide +kernel
theorem dL_set_4 : decode cL_set 4 = .ok (.iload_n 2, 1) := by decide +kernel
theorem dL_set_5 : decode cL_set 5 = .ok (.invokevirtual 48, 3) := by decide +kernel
theorem dL_set_8 : decode cL_set 8 = .ok (.i2l, 1) := by decide +kernel
theorem dL_set_9 : decode cL_set 9 = .ok (.lastore, 1) := by decide +kernel
theorem dL_set_10 : decode cL_set 10 = .ok (.goto 15, 3) := by decide +kernel
theorem dL_set_13 : decode cL_set 13 = .ok (.astore 4, 2) := by decide +kernel
theorem dL_set_15 : decode cL_set 15 = .ok (.iconst 1, 1) := by decide +kernel
theorem dL_set_16 : decode cL_set 16 = .ok (.ireturn, 1) := by decide +kernel
theorem dL_set_17 : decode cL_set 17 = .ok (.astore 4, 2) := by decide +kernel
theorem dL_set_19 : decode cL_set 19 = .ok (.iconst 2, 1) := by decide +kernel
theorem dL_set_20 : decode cL_set 20 = .ok (.ireturn, 1) := by decide +kernel
theorem dL_set_21 : decode cL_set 21 = .ok (.astore 4, 2) := by decide +kernel
theorem dL_set_23 : decode cL_set 23 = .ok (.iconst 3, 1) := by decide +kernel
theorem dL_set_24 : decode cL_set 24 = .ok (.ireturn, 1) := by decide +kernel
theorem dL_set_25 : decode cL_set 25 = .ok (.iconst 0, 1) := by decide +kernel
theorem dL_set_26 : decode cL_set 26 = .ok (.ireturn, 1) := by decide +kernel
theorem dL_kerf_0 : decode cL_kerf 0 = .ok (.aload_n 2, 1) := by decide +kernel
theorem dL_kerf_1 : decode cL_kerf 1 = .ok (.iconst 0, 1) := by decide +kernel
theorem dL_kerf_2 : decode cL_kerf 2 = .ok (.aload_n 0, 1) := by decide +kernel
theorem dL_kerf_3 : decode cL_kerf 3 = .ok (.iload_n 1, 1) := by decide +kernel
theorem dL_kerf_4 : decode cL_kerf 4 = .ok (.invokevirtual 51, 3) := by decide +kernel
theorem dL_kerf_7 : decode cL_kerf 7 = .ok (.i2l, 1) := by decide +kernel
theorem dL_kerf_8 : decode cL_kerf 8 = .ok (.lastore, 1) := by decide +kernel
theorem dL_kerf_9 : decode cL_kerf 9 = .ok (.goto 6, 3) := by decide +kernel
theorem dL_kerf_12 : decode cL_kerf 12 = .ok (.astore_n 3, 1) := by decide +kernel
theorem dL_kerf_13 : decode cL_kerf 13 = .ok (.iconst 1, 1) := by decide +kernel
theorem dL_kerf_14 : decode cL_kerf 14 = .ok (.ireturn, 1) := by decide +kernel
theorem dL_kerf_15 : decode cL_kerf 15 = .ok (.iconst 0, 1) := by decide +kernel
theorem dL_kerf_16 : decode cL_kerf 16 = .ok (.ireturn, 1) := by decide +kernel
theorem dL_gullets_0 : decode cL_gullets 0 = .ok (.aload_n 2, 1) := by decide +kernel
theorem dL_gullets_1 : decode cL_gullets 1 = .ok (.iconst 0, 1) := by decide +kernel
theorem dL_gullets_2 : decode cL_gullets 2 = .ok (.aload_n 0, 1) := by decide +kernel
theorem dL_gullets_3 : decode cL_gullets 3 = .ok (.iload_n 1, 1) := by decide +kernel
theorem dL_gullets_4 : decode cL_gullets 4 = .ok (.invokevirtual 54, 3) := by decide +kernel
theorem dL_gullets_7 : decode cL_gullets 7 = .ok (.i2l, 1) := by decide +kernel
theorem dL_gullets_8 : decode cL_gullets 8 = .ok (.lastore, 1) := by decide +kernel
theorem dL_gullets_9 : decode cL_gullets 9 = .ok (.goto 6, 3) := by decide +kernel
theorem dL_gullets_12 : decode cL_gullets 12 = .ok (.astore_n 3, 1) := by decide +kernel
theorem dL_gullets_13 : decode cL_gullets 13 = .ok (.iconst 1, 1) := by decide +kernel
theorem dL_gullets_14 : decode cL_gullets 14 = .ok (.ireturn, 1) := by decide +kernel
theorem dL_gullets_15 : decode cL_gullets 15 = .ok (.iconst 0, 1) := by decide +kernel
theorem dL_gullets_16 : decode cL_gullets 16 = .ok (.ireturn, 1) := by decide +kernel
theorem dL_thickness_0 : decode cL_thickness 0 = .ok (.aload_n 2, 1) := by decide +kernel
theorem dL_thickness_1 : decode cL_thickness 1 = .ok (.iconst 0, 1) := by decide +kernel
theorem dL_thickness_2 : decode cL_thickness 2 = .ok (.aload_n 0, 1) := by decide +kernel
theorem dL_thickness_3 : decode cL_thickness 3 = .ok (.iload_n 1, 1) := by decide +kernel
theorem dL_thickness_4 : decode cL_thickness 4 = .ok (.invokevirtual 57, 3) := by decide +kernel
theorem dL_thickness_7 : decode cL_thickness 7 = .ok (.i2l, 1) := by decide +kernel
theorem dL_thickness_8 : decode cL_thickness 8 = .ok (.lastore, 1) := by decide +kernel
theorem dL_thickness_9 : decode cL_thickness 9 = .ok (.goto 6, 3) := by decide +kernel
theorem dL_thickness_12 : decode cL_thickness 12 = .ok (.astore_n 3, 1) := by decide +kernel
theorem dL_thickness_13 : decode cL_thickness 13 = .ok (.iconst 1, 1) := by decide +kernel
theorem dL_thickness_14 : decode cL_thickness 14 = .ok (.ireturn, 1) := by decide +kernel
theorem dL_thickness_15 : decode cL_thickness 15 = .ok (.iconst 0, 1) := by decide +kernel
theorem dL_thickness_16 : decode cL_thickness 16 = .ok (.ireturn, 1) := by decide +kernel
theorem dL_state_0 : decode cL_state 0 = .ok (.aload_n 2, 1) := by decide +kernel
theorem dL_state_1 : decode cL_state 1 = .ok (.iconst 0, 1) := by decide +kernel
theorem dL_state_2 : decode cL_state 2 = .ok (.aload_n 0, 1) := by decide +kernel
theorem dL_state_3 : decode cL_state 3 = .ok (.iload_n 1, 1) := by decide +kernel
theorem dL_state_4 : decode cL_state 4 = .ok (.invokevirtual 60, 3) := by decide +kernel
theorem dL_state_7 : decode cL_state 7 = .ok (.i2l, 1) := by decide +kernel
theorem dL_state_8 : decode cL_state 8 = .ok (.lastore, 1) := by decide +kernel
theorem dL_state_9 : decode cL_state 9 = .ok (.goto 6, 3) := by decide +kernel
theorem dL_state_12 : decode cL_state 12 = .ok (.astore_n 3, 1) := by decide +kernel
theorem dL_state_13 : decode cL_state 13 = .ok (.iconst 1, 1) := by decide +kernel
theorem dL_state_14 : decode cL_state 14 = .ok (.ireturn, 1) := by decide +kernel
theorem dL_state_15 : decode cL_state 15 = .ok (.iconst 0, 1) := by decide +kernel
theorem dL_state_16 : decode cL_state 16 = .ok (.ireturn, 1) := by decide +kernel
theorem dL_harden_0 : decode cL_harden 0 = .ok (.aload 4, 2) := by decide +kernel
theorem dL_harden_2 : decode cL_harden 2 = .ok (.iconst 0, 1) := by decide +kernel
theorem dL_harden_3 : decode cL_harden 3 = .ok (.aload_n 0, 1) := by decide +kernel
theorem dL_harden_4 : decode cL_harden 4 = .ok (.iload_n 1, 1) := by decide +kernel
theorem dL_harden_5 : decode cL_harden 5 = .ok (.iload_n 2, 1) := by decide +kernel
theorem dL_harden_6 : decode cL_harden 6 = .ok (.iload_n 3, 1) := by decide +kernel
theorem dL_harden_7 : decode cL_harden 7 = .ok (.invokevirtual 64, 3) := by decide +kernel
theorem dL_harden_10 : decode cL_harden 10 = .ok (.i2l, 1) := by decide +kernel
theorem dL_harden_11 : decode cL_harden 11 = .ok (.lastore, 1) := by decide +kernel
theorem dL_harden_12 : decode cL_harden 12 = .ok (.goto 15, 3) := by decide +kernel
theorem dL_harden_15 : decode cL_harden 15 = .ok (.astore 5, 2) := by decide +kernel
theorem dL_harden_17 : decode cL_harden 17 = .ok (.iconst 1, 1) := by decide +kernel
theorem dL_harden_18 : decode cL_harden 18 = .ok (.ireturn, 1) := by decide +kernel
theorem dL_harden_19 : decode cL_harden 19 = .ok (.astore 5, 2) := by decide +kernel
theorem dL_harden_21 : decode cL_harden 21 = .ok (.iconst 2, 1) := by decide +kernel
theorem dL_harden_22 : decode cL_harden 22 = .ok (.ireturn, 1) := by decide +kernel
theorem dL_harden_23 : decode cL_harden 23 = .ok (.astore 5, 2) := by decide +kernel
theorem dL_harden_25 : decode cL_harden 25 = .ok (.iconst 3, 1) := by decide +kernel
theorem dL_harden_26 : decode cL_harden 26 = .ok (.ireturn, 1) := by decide +kernel
theorem dL_harden_27 : decode cL_harden 27 = .ok (.iconst 0, 1) := by decide +kernel
theorem dL_harden_28 : decode cL_harden 28 = .ok (.ireturn, 1) := by decide +kernel
theorem dL_hardness_0 : decode cL_hardness 0 = .ok (.aload_n 2, 1) := by decide +kernel
theorem dL_hardness_1 : decode cL_hardness 1 = .ok (.iconst 0, 1) := by decide +kernel
theorem dL_hardness_2 : decode cL_hardness 2 = .ok (.aload_n 0, 1) := by decide +kernel
theorem dL_hardness_3 : decode cL_hardness 3 = .ok (.iload_n 1, 1) := by decide +kernel
theorem dL_hardness_4 : decode cL_hardness 4 = .ok (.invokevirtual 68, 3) := by decide +kernel
theorem dL_hardness_7 : decode cL_hardness 7 = .ok (.i2l, 1) := by decide +kernel
theorem dL_hardness_8 : decode cL_hardness 8 = .ok (.lastore, 1) := by decide +kernel
theorem dL_hardness_9 : decode cL_hardness 9 = .ok (.goto 6, 3) := by decide +kernel
theorem dL_hardness_12 : decode cL_hardness 12 = .ok (.astore_n 3, 1) := by decide +kernel
theorem dL_hardness_13 : decode cL_hardness 13 = .ok (.iconst 1, 1) := by decide +kernel
theorem dL_hardness_14 : decode cL_hardness 14 = .ok (.ireturn, 1) := by decide +kernel
theorem dL_hardness_15 : decode cL_hardness 15 = .ok (.iconst 0, 1) := by decide +kernel
theorem dL_hardness_16 : decode cL_hardness 16 = .ok (.ireturn, 1) := by decide +kernel
theorem dL_bend_0 : decode cL_bend 0 = .ok (.aload_n 2, 1) := by decide +kernel
theorem dL_bend_1 : decode cL_bend 1 = .ok (.iconst 0, 1) := by decide +kernel
theorem dL_bend_2 : decode cL_bend 2 = .ok (.aload_n 0, 1) := by decide +kernel
theorem dL_bend_3 : decode cL_bend 3 = .ok (.iload_n 1, 1) := by decide +kernel
theorem dL_bend_4 : decode cL_bend 4 = .ok (.invokevirtual 71, 3) := by decide +kernel
theorem dL_bend_7 : decode cL_bend 7 = .ok (.i2l, 1) := by decide +kernel
theorem dL_bend_8 : decode cL_bend 8 = .ok (.lastore, 1) := by decide +kernel
theorem dL_bend_9 : decode cL_bend 9 = .ok (.goto 6, 3) := by decide +kernel
theorem dL_bend_12 : decode cL_bend 12 = .ok (.astore_n 3, 1) := by decide +kernel
theorem dL_bend_13 : decode cL_bend 13 = .ok (.iconst 1, 1) := by decide +kernel
theorem dL_bend_14 : decode cL_bend 14 = .ok (.ireturn, 1) := by decide +kernel
theorem dL_bend_15 : decode cL_bend 15 = .ok (.iconst 0, 1) := by decide +kernel
theorem dL_bend_16 : decode cL_bend 16 = .ok (.ireturn, 1) := by decide +kernel
theorem dL_temper_0 : decode cL_temper 0 = .ok (.aload_n 3, 1) := by decide +kernel
theorem dL_temper_1 : decode cL_temper 1 = .ok (.iconst 0, 1) := by decide +kernel
theorem dL_temper_2 : decode cL_temper 2 = .ok (.aload_n 0, 1) := by decide +kernel
theorem dL_temper_3 : decode cL_temper 3 = .ok (.iload_n 1, 1) := by decide +kernel
theorem dL_temper_4 : decode cL_temper 4 = .ok (.iload_n 2, 1) := by decide +kernel
theorem dL_temper_5 : decode cL_temper 5 = .ok (.invokevirtual 74, 3) := by decide +kernel
theorem dL_temper_8 : decode cL_temper 8 = .ok (.i2l, 1) := by decide +kernel
theorem dL_temper_9 : decode cL_temper 9 = .ok (.lastore, 1) := by decide +kernel
theorem dL_temper_10 : decode cL_temper 10 = .ok (.goto 15, 3) := by decide +kernel
theorem dL_temper_13 : decode cL_temper 13 = .ok (.astore 4, 2) := by decide +kernel
theorem dL_temper_15 : decode cL_temper 15 = .ok (.iconst 1, 1) := by decide +kernel
theorem dL_temper_16 : decode cL_temper 16 = .ok (.ireturn, 1) := by decide +kernel
theorem dL_temper_17 : decode cL_temper 17 = .ok (.astore 4, 2) := by decide +kernel
theorem dL_temper_19 : decode cL_temper 19 = .ok (.iconst 2, 1) := by decide +kernel
theorem dL_temper_20 : decode cL_temper 20 = .ok (.ireturn, 1) := by decide +kernel
theorem dL_temper_21 : decode cL_temper 21 = .ok (.astore 4, 2) := by decide +kernel
theorem dL_temper_23 : decode cL_temper 23 = .ok (.iconst 3, 1) := by decide +kernel
theorem dL_temper_24 : decode cL_temper 24 = .ok (.ireturn, 1) := by decide +kernel
theorem dL_temper_25 : decode cL_temper 25 = .ok (.iconst 0, 1) := by decide +kernel
theorem dL_temper_26 : decode cL_temper 26 = .ok (.ireturn, 1) := by decide +kernel
theorem dL_straighten_0 : decode cL_straighten 0 = .ok (.aload_n 3, 1) := by decide +kernel
theorem dL_straighten_1 : decode cL_straighten 1 = .ok (.iconst 0, 1) := by decide +kernel
theorem dL_straighten_2 : decode cL_straighten 2 = .ok (.aload_n 0, 1) := by decide +kernel
theorem dL_straighten_3 : decode cL_straighten 3 = .ok (.iload_n 1, 1) := by decide +kernel
theorem dL_straighten_4 : decode cL_straighten 4 = .ok (.iload_n 2, 1) := by decide +kernel
theorem dL_straighten_5 : decode cL_straighten 5 = .ok (.invokevirtual 77, 3) := by decide +kernel
theorem dL_straighten_8 : decode cL_straighten 8 = .ok (.i2l, 1) := by decide +kernel
theorem dL_straighten_9 : decode cL_straighten 9 = .ok (.lastore, 1) := by decide +kernel
theorem dL_straighten_10 : decode cL_straighten 10 = .ok (.goto 15, 3) := by decide +kernel
theorem dL_straighten_13 : decode cL_straighten 13 = .ok (.astore 4, 2) := by decide +kernel
theorem dL_straighten_15 : decode cL_straighten 15 = .ok (.iconst 1, 1) := by decide +kernel
theorem dL_straighten_16 : decode cL_straighten 16 = .ok (.ireturn, 1) := by decide +kernel
theorem dL_straighten_17 : decode cL_straighten 17 = .ok (.astore 4, 2) := by decide +kernel
theorem dL_straighten_19 : decode cL_straighten 19 = .ok (.iconst 2, 1) := by decide +kernel
theorem dL_straighten_20 : decode cL_straighten 20 = .ok (.ireturn, 1) := by decide +kernel
theorem dL_straighten_21 : decode cL_straighten 21 = .ok (.astore 4, 2) := by decide +kernel
theorem dL_straighten_23 : decode cL_straighten 23 = .ok (.iconst 3, 1) := by decide +kernel
theorem dL_straighten_24 : decode cL_straighten 24 = .ok (.ireturn, 1) := by decide +kernel
theorem dL_straighten_25 : decode cL_straighten 25 = .ok (.iconst 0, 1) := by decide +kernel
theorem dL_straighten_26 : decode cL_straighten 26 = .ok (.ireturn, 1) := by decide +kernel
theorem dL_seed_0 : decode cL_seed 0 = .ok (.aload_n 2, 1) := by decide +kernel
theorem dL_seed_1 : decode cL_seed 1 = .ok (.iconst 0, 1) := by decide +kernel
theorem dL_seed_2 : decode cL_seed 2 = .ok (.aload_n 0, 1) := by decide +kernel
theorem dL_seed_3 : decode cL_seed 3 = .ok (.iload_n 1, 1) := by decide +kernel
theorem dL_seed_4 : decode cL_seed 4 = .ok (.invokevirtual 80, 3) := by decide +kernel
theorem dL_seed_7 : decode cL_seed 7 = .ok (.i2l, 1) := by decide +kernel
theorem dL_seed_8 : decode cL_seed 8 = .ok (.lastore, 1) := by decide +kernel
theorem dL_seed_9 : decode cL_seed 9 = .ok (.goto 6, 3) := by decide +kernel
theorem dL_seed_12 : decode cL_seed 12 = .ok (.astore_n 3, 1) := by decide +kernel
theorem dL_seed_13 : decode cL_seed 13 = .ok (.iconst 1, 1) := by decide +kernel
theorem dL_seed_14 : decode cL_seed 14 = .ok (.ireturn, 1) := by decide +kernel
theorem dL_seed_15 : decode cL_seed 15 = .ok (.iconst 0, 1) := by decide +kernel
theorem dL_seed_16 : decode cL_seed 16 = .ok (.ireturn, 1) := by decide +kernel
theorem dL_strokes_0 : decode cL_strokes 0 = .ok (.aload 4, 2) := by decide +kernel
theorem dL_strokes_2 : decode cL_strokes 2 = .ok (.iconst 0, 1) := by decide +kernel
theorem dL_strokes_3 : decode cL_strokes 3 = .ok (.aload_n 0, 1) := by decide +kernel
theorem dL_strokes_4 : decode cL_strokes 4 = .ok (.iload_n 1, 1) := by decide +kernel
theorem dL_strokes_5 : decode cL_strokes 5 = .ok (.iload_n 2, 1) := by decide +kernel
theorem dL_strokes_6 : decode cL_strokes 6 = .ok (.iload_n 3, 1) := by decide +kernel
theorem dL_strokes_7 : decode cL_strokes 7 = .ok (.invokevirtual 83, 3) := by decide +kernel
theorem dL_strokes_10 : decode cL_strokes 10 = .ok (.i2l, 1) := by decide +kernel
theorem dL_strokes_11 : decode cL_strokes 11 = .ok (.lastore, 1) := by decide +kernel
theorem dL_strokes_12 : decode cL_strokes 12 = .ok (.goto 15, 3) := by decide +kernel
theorem dL_strokes_15 : decode cL_strokes 15 = .ok (.astore 5, 2) := by decide +kernel
theorem dL_strokes_17 : decode cL_strokes 17 = .ok (.iconst 1, 1) := by decide +kernel
theorem dL_strokes_18 : decode cL_strokes 18 = .ok (.ireturn, 1) := by decide +kernel
theorem dL_strokes_19 : decode cL_strokes 19 = .ok (.astore 5, 2) := by decide +kernel
theorem dL_strokes_21 : decode cL_strokes 21 = .ok (.iconst 2, 1) := by decide +kernel
theorem dL_strokes_22 : decode cL_strokes 22 = .ok (.ireturn, 1) := by decide +kernel
theorem dL_strokes_23 : decode cL_strokes 23 = .ok (.astore 5, 2) := by decide +kernel
theorem dL_strokes_25 : decode cL_strokes 25 = .ok (.iconst 3, 1) := by decide +kernel
theorem dL_strokes_26 : decode cL_strokes 26 = .ok (.ireturn, 1) := by decide +kernel
theorem dL_strokes_27 : decode cL_strokes 27 = .ok (.iconst 0, 1) := by decide +kernel
theorem dL_strokes_28 : decode cL_strokes 28 = .ok (.ireturn, 1) := by decide +kernel
theorem dL_chips_0 : decode cL_chips 0 = .ok (.aload_n 2, 1) := by decide +kernel
theorem dL_chips_1 : decode cL_chips 1 = .ok (.iconst 0, 1) := by decide +kernel
theorem dL_chips_2 : decode cL_chips 2 = .ok (.aload_n 0, 1) := by decide +kernel
theorem dL_chips_3 : decode cL_chips 3 = .ok (.iload_n 1, 1) := by decide +kernel
theorem dL_chips_4 : decode cL_chips 4 = .ok (.invokevirtual 87, 3) := by decide +kernel
theorem dL_chips_7 : decode cL_chips 7 = .ok (.i2l, 1) := by decide +kernel
theorem dL_chips_8 : decode cL_chips 8 = .ok (.lastore, 1) := by decide +kernel
theorem dL_chips_9 : decode cL_chips 9 = .ok (.goto 6, 3) := by decide +kernel
theorem dL_chips_12 : decode cL_chips 12 = .ok (.astore_n 3, 1) := by decide +kernel
theorem dL_chips_13 : decode cL_chips 13 = .ok (.iconst 1, 1) := by decide +kernel
theorem dL_chips_14 : decode cL_chips 14 = .ok (.ireturn, 1) := by decide +kernel
theorem dL_chips_15 : decode cL_chips 15 = .ok (.iconst 0, 1) := by decide +kernel
theorem dL_chips_16 : decode cL_chips 16 = .ok (.ireturn, 1) := by decide +kernel
theorem dL_brush_0 : decode cL_brush 0 = .ok (.aload_n 2, 1) := by decide +kernel
theorem dL_brush_1 : decode cL_brush 1 = .ok (.iconst 0, 1) := by decide +kernel
theorem dL_brush_2 : decode cL_brush 2 = .ok (.aload_n 0, 1) := by decide +kernel
theorem dL_brush_3 : decode cL_brush 3 = .ok (.iload_n 1, 1) := by decide +kernel
theorem dL_brush_4 : decode cL_brush 4 = .ok (.invokevirtual 90, 3) := by decide +kernel
theorem dL_brush_7 : decode cL_brush 7 = .ok (.i2l, 1) := by decide +kernel
theorem dL_brush_8 : decode cL_brush 8 = .ok (.lastore, 1) := by decide +kernel
theorem dL_brush_9 : decode cL_brush 9 = .ok (.goto 6, 3) := by decide +kernel
theorem dL_brush_12 : decode cL_brush 12 = .ok (.astore_n 3, 1) := by decide +kernel
theorem dL_brush_13 : decode cL_brush 13 = .ok (.iconst 1, 1) := by decide +kernel
theorem dL_brush_14 : decode cL_brush 14 = .ok (.ireturn, 1) := by decide +kernel
theorem dL_brush_15 : decode cL_brush 15 = .ok (.iconst 0, 1) := by decide +kernel
theorem dL_brush_16 : decode cL_brush 16 = .ok (.ireturn, 1) := by decide +kernel
theorem dL_work_0 : decode cL_work 0 = .ok (.aload_n 2, 1) := by decide +kernel
theorem dL_work_1 : decode cL_work 1 = .ok (.iconst 0, 1) := by decide +kernel
theorem dL_work_2 : decode cL_work 2 = .ok (.aload_n 0, 1) := by decide +kernel
theorem dL_work_3 : decode cL_work 3 = .ok (.iload_n 1, 1) := by decide +kernel
theorem dL_work_4 : decode cL_work 4 = .ok (.invokevirtual 93, 3) := by decide +kernel
theorem dL_work_7 : decode cL_work 7 = .ok (.i2l, 1) := by decide +kernel
theorem dL_work_8 : decode cL_work 8 = .ok (.lastore, 1) := by decide +kernel
theorem dL_work_9 : decode cL_work 9 = .ok (.goto 6, 3) := by decide +kernel
theorem dL_work_12 : decode cL_work 12 = .ok (.astore_n 3, 1) := by decide +kernel
theorem dL_work_13 : decode cL_work 13 = .ok (.iconst 1, 1) := by decide +kernel
theorem dL_work_14 : decode cL_work 14 = .ok (.ireturn, 1) := by decide +kernel
theorem dL_work_15 : decode cL_work 15 = .ok (.iconst 0, 1) := by decide +kernel
theorem dL_work_16 : decode cL_work 16 = .ok (.ireturn, 1) := by decide +kernel
theorem dL_soften_0 : decode cL_soften 0 = .ok (.aload_n 2, 1) := by decide +kernel
theorem dL_soften_1 : decode cL_soften 1 = .ok (.iconst 0, 1) := by decide +kernel
theorem dL_soften_2 : decode cL_soften 2 = .ok (.aload_n 0, 1) := by decide +kernel
theorem dL_soften_3 : decode cL_soften 3 = .ok (.iload_n 1, 1) := by decide +kernel
theorem dL_soften_4 : decode cL_soften 4 = .ok (.invokevirtual 96, 3) := by decide +kernel
theorem dL_soften_7 : decode cL_soften 7 = .ok (.i2l, 1) := by decide +kernel
theorem dL_soften_8 : decode cL_soften 8 = .ok (.lastore, 1) := by decide +kernel
theorem dL_soften_9 : decode cL_soften 9 = .ok (.goto 9, 3) := by decide +kernel
theorem dL_soften_12 : decode cL_soften 12 = .ok (.astore_n 3, 1) := by decide +kernel
theorem dL_soften_13 : decode cL_soften 13 = .ok (.iconst 1, 1) := by decide +kernel
theorem dL_soften_14 : decode cL_soften 14 = .ok (.ireturn, 1) := by decide +kernel
theorem dL_soften_15 : decode cL_soften 15 = .ok (.astore_n 3, 1) := by decide +kernel
theorem dL_soften_16 : decode cL_soften 16 = .ok (.iconst 2, 1) := by decide +kernel
theorem dL_soften_17 : decode cL_soften 17 = .ok (.ireturn, 1) := by decide +kernel
theorem dL_soften_18 : decode cL_soften 18 = .ok (.iconst 0, 1) := by decide +kernel
theorem dL_soften_19 : decode cL_soften 19 = .ok (.ireturn, 1) := by decide +kernel
theorem dL_grind_0 : decode cL_grind 0 = .ok (.aload_n 2, 1) := by decide +kernel
theorem dL_grind_1 : decode cL_grind 1 = .ok (.iconst 0, 1) := by decide +kernel
theorem dL_grind_2 : decode cL_grind 2 = .ok (.aload_n 0, 1) := by decide +kernel
theorem dL_grind_3 : decode cL_grind 3 = .ok (.iload_n 1, 1) := by decide +kernel
theorem dL_grind_4 : decode cL_grind 4 = .ok (.invokevirtual 99, 3) := by decide +kernel
theorem dL_grind_7 : decode cL_grind 7 = .ok (.i2l, 1) := by decide +kernel
theorem dL_grind_8 : decode cL_grind 8 = .ok (.lastore, 1) := by decide +kernel
theorem dL_grind_9 : decode cL_grind 9 = .ok (.goto 9, 3) := by decide +kernel
theorem dL_grind_12 : decode cL_grind 12 = .ok (.astore_n 3, 1) := by decide +kernel
theorem dL_grind_13 : decode cL_grind 13 = .ok (.iconst 1, 1) := by decide +kernel
theorem dL_grind_14 : decode cL_grind 14 = .ok (.ireturn, 1) := by decide +kernel
theorem dL_grind_15 : decode cL_grind 15 = .ok (.astore_n 3, 1) := by decide +kernel
theorem dL_grind_16 : decode cL_grind 16 = .ok (.iconst 2, 1) := by decide +kernel
theorem dL_grind_17 : decode cL_grind 17 = .ok (.ireturn, 1) := by decide +kernel
theorem dL_grind_18 : decode cL_grind 18 = .ok (.iconst 0, 1) := by decide +kernel
theorem dL_grind_19 : decode cL_grind 19 = .ok (.ireturn, 1) := by decide +kernel
theorem dL_recuts_0 : decode cL_recuts 0 = .ok (.aload_n 2, 1) := by decide +kernel
theorem dL_recuts_1 : decode cL_recuts 1 = .ok (.iconst 0, 1) := by decide +kernel
theorem dL_recuts_2 : decode cL_recuts 2 = .ok (.aload_n 0, 1) := by decide +kernel
theorem dL_recuts_3 : decode cL_recuts 3 = .ok (.iload_n 1, 1) := by decide +kernel
theorem dL_recuts_4 : decode cL_recuts 4 = .ok (.invokevirtual 102, 3) := by decide +kernel
theorem dL_recuts_7 : decode cL_recuts 7 = .ok (.i2l, 1) := by decide +kernel
theorem dL_recuts_8 : decode cL_recuts 8 = .ok (.lastore, 1) := by decide +kernel
theorem dL_recuts_9 : decode cL_recuts 9 = .ok (.goto 6, 3) := by decide +kernel
theorem dL_recuts_12 : decode cL_recuts 12 = .ok (.astore_n 3, 1) := by decide +kernel
theorem dL_recuts_13 : decode cL_recuts 13 = .ok (.iconst 1, 1) := by decide +kernel
theorem dL_recuts_14 : decode cL_recuts 14 = .ok (.ireturn, 1) := by decide +kernel
theorem dL_recuts_15 : decode cL_recuts 15 = .ok (.iconst 0, 1) := by decide +kernel
theorem dL_recuts_16 : decode cL_recuts 16 = .ok (.ireturn, 1) := by decide +kernel
theorem dL_recutsLeft_0 : decode cL_recutsLeft 0 = .ok (.aload_n 3, 1) := by decide +kernel
theorem dL_recutsLeft_1 : decode cL_recutsLeft 1 = .ok (.iconst 0, 1) := by decide +kernel
theorem dL_recutsLeft_2 : decode cL_recutsLeft 2 = .ok (.aload_n 0, 1) := by decide +kernel
theorem dL_recutsLeft_3 : decode cL_recutsLeft 3 = .ok (.iload_n 1, 1) := by decide +kernel
theorem dL_recutsLeft_4 : decode cL_recutsLeft 4 = .ok (.iload_n 2, 1) := by decide +kernel
theorem dL_recutsLeft_5 : decode cL_recutsLeft 5 = .ok (.invokevirtual 105, 3) := by decide +kernel
theorem dL_recutsLeft_8 : decode cL_recutsLeft 8 = .ok (.i2l, 1) := by decide +kernel
theorem dL_recutsLeft_9 : decode cL_recutsLeft 9 = .ok (.lastore, 1) := by decide +kernel
theorem dL_recutsLeft_10 : decode cL_recutsLeft 10 = .ok (.goto 11, 3) := by decide +kernel
theorem dL_recutsLeft_13 : decode cL_recutsLeft 13 = .ok (.astore 4, 2) := by decide +kernel
theorem dL_recutsLeft_15 : decode cL_recutsLeft 15 = .ok (.iconst 1, 1) := by decide +kernel
theorem dL_recutsLeft_16 : decode cL_recutsLeft 16 = .ok (.ireturn, 1) := by decide +kernel
theorem dL_recutsLeft_17 : decode cL_recutsLeft 17 = .ok (.astore 4, 2) := by decide +kernel
theorem dL_recutsLeft_19 : decode cL_recutsLeft 19 = .ok (.iconst 2, 1) := by decide +kernel
theorem dL_recutsLeft_20 : decode cL_recutsLeft 20 = .ok (.ireturn, 1) := by decide +kernel
theorem dL_recutsLeft_21 : decode cL_recutsLeft 21 = .ok (.iconst 0, 1) := by decide +kernel
theorem dL_recutsLeft_22 : decode cL_recutsLeft 22 = .ok (.ireturn, 1) := by decide +kernel
theorem dL_order_0 : decode cL_order 0 = .ok (.aload 4, 2) := by decide +kernel
theorem dL_order_2 : decode cL_order 2 = .ok (.iconst 0, 1) := by decide +kernel
theorem dL_order_3 : decode cL_order 3 = .ok (.aload_n 0, 1) := by decide +kernel
theorem dL_order_4 : decode cL_order 4 = .ok (.iload_n 1, 1) := by decide +kernel
theorem dL_order_5 : decode cL_order 5 = .ok (.iload_n 2, 1) := by decide +kernel
theorem dL_order_6 : decode cL_order 6 = .ok (.iload_n 3, 1) := by decide +kernel
theorem dL_order_7 : decode cL_order 7 = .ok (.invokevirtual 109, 3) := by decide +kernel
theorem dL_order_10 : decode cL_order 10 = .ok (.i2l, 1) := by decide +kernel
theorem dL_order_11 : decode cL_order 11 = .ok (.lastore, 1) := by decide +kernel
theorem dL_order_12 : decode cL_order 12 = .ok (.goto 11, 3) := by decide +kernel
theorem dL_order_15 : decode cL_order 15 = .ok (.astore 5, 2) := by decide +kernel
theorem dL_order_17 : decode cL_order 17 = .ok (.iconst 1, 1) := by decide +kernel
theorem dL_order_18 : decode cL_order 18 = .ok (.ireturn, 1) := by decide +kernel
theorem dL_order_19 : decode cL_order 19 = .ok (.astore 5, 2) := by decide +kernel
theorem dL_order_21 : decode cL_order 21 = .ok (.iconst 2, 1) := by decide +kernel
theorem dL_order_22 : decode cL_order 22 = .ok (.ireturn, 1) := by decide +kernel
theorem dL_order_23 : decode cL_order 23 = .ok (.iconst 0, 1) := by decide +kernel
theorem dL_order_24 : decode cL_order 24 = .ok (.ireturn, 1) := by decide +kernel
theorem dL_isGood_0 : decode cL_isGood 0 = .ok (.aload_n 3, 1) := by decide +kernel
theorem dL_isGood_1 : decode cL_isGood 1 = .ok (.iconst 0, 1) := by decide +kernel
theorem dL_isGood_2 : decode cL_isGood 2 = .ok (.aload_n 0, 1) := by decide +kernel
theorem dL_isGood_3 : decode cL_isGood 3 = .ok (.iload_n 1, 1) := by decide +kernel
theorem dL_isGood_4 : decode cL_isGood 4 = .ok (.iload_n 2, 1) := by decide +kernel
theorem dL_isGood_5 : decode cL_isGood 5 = .ok (.invokevirtual 113, 3) := by decide +kernel
theorem dL_isGood_8 : decode cL_isGood 8 = .ok (.ifCond .eq 7, 3) := by decide +kernel
theorem dL_isGood_11 : decode cL_isGood 11 = .ok (.lconst 1, 1) := by decide +kernel
theorem dL_isGood_12 : decode cL_isGood 12 = .ok (.goto 4, 3) := by decide +kernel
theorem dL_isGood_15 : decode cL_isGood 15 = .ok (.lconst 0, 1) := by decide +kernel
theorem dL_isGood_16 : decode cL_isGood 16 = .ok (.lastore, 1) := by decide +kernel
theorem dL_isGood_17 : decode cL_isGood 17 = .ok (.goto 7, 3) := by decide +kernel
theorem dL_isGood_20 : decode cL_isGood 20 = .ok (.astore 4, 2) := by decide +kernel
theorem dL_isGood_22 : decode cL_isGood 22 = .ok (.iconst 1, 1) := by decide +kernel
theorem dL_isGood_23 : decode cL_isGood 23 = .ok (.ireturn, 1) := by decide +kernel
theorem dL_isGood_24 : decode cL_isGood 24 = .ok (.iconst 0, 1) := by decide +kernel
theorem dL_isGood_25 : decode cL_isGood 25 = .ok (.ireturn, 1) := by decide +kernel
theorem dL_send_0 : decode cL_send 0 = .ok (.aload_n 3, 1) := by decide +kernel
theorem dL_send_1 : decode cL_send 1 = .ok (.iconst 0, 1) := by decide +kernel
theorem dL_send_2 : decode cL_send 2 = .ok (.aload_n 0, 1) := by decide +kernel
theorem dL_send_3 : decode cL_send 3 = .ok (.iload_n 1, 1) := by decide +kernel
theorem dL_send_4 : decode cL_send 4 = .ok (.iload_n 2, 1) := by decide +kernel
theorem dL_send_5 : decode cL_send 5 = .ok (.invokevirtual 117, 3) := by decide +kernel
theorem dL_send_8 : decode cL_send 8 = .ok (.i2l, 1) := by decide +kernel
theorem dL_send_9 : decode cL_send 9 = .ok (.lastore, 1) := by decide +kernel
theorem dL_send_10 : decode cL_send 10 = .ok (.goto 11, 3) := by decide +kernel
theorem dL_send_13 : decode cL_send 13 = .ok (.astore 4, 2) := by decide +kernel
theorem dL_send_15 : decode cL_send 15 = .ok (.iconst 1, 1) := by decide +kernel
theorem dL_send_16 : decode cL_send 16 = .ok (.ireturn, 1) := by decide +kernel
theorem dL_send_17 : decode cL_send 17 = .ok (.astore 4, 2) := by decide +kernel
theorem dL_send_19 : decode cL_send 19 = .ok (.iconst 2, 1) := by decide +kernel
theorem dL_send_20 : decode cL_send 20 = .ok (.ireturn, 1) := by decide +kernel
theorem dL_send_21 : decode cL_send 21 = .ok (.iconst 0, 1) := by decide +kernel
theorem dL_send_22 : decode cL_send 22 = .ok (.ireturn, 1) := by decide +kernel
theorem dL_sent_0 : decode cL_sent 0 = .ok (.aload_n 2, 1) := by decide +kernel
theorem dL_sent_1 : decode cL_sent 1 = .ok (.iconst 0, 1) := by decide +kernel
theorem dL_sent_2 : decode cL_sent 2 = .ok (.aload_n 0, 1) := by decide +kernel
theorem dL_sent_3 : decode cL_sent 3 = .ok (.iload_n 1, 1) := by decide +kernel
theorem dL_sent_4 : decode cL_sent 4 = .ok (.invokevirtual 120, 3) := by decide +kernel
theorem dL_sent_7 : decode cL_sent 7 = .ok (.i2l, 1) := by decide +kernel
theorem dL_sent_8 : decode cL_sent 8 = .ok (.lastore, 1) := by decide +kernel
theorem dL_sent_9 : decode cL_sent 9 = .ok (.goto 6, 3) := by decide +kernel
theorem dL_sent_12 : decode cL_sent 12 = .ok (.astore_n 3, 1) := by decide +kernel
theorem dL_sent_13 : decode cL_sent 13 = .ok (.iconst 1, 1) := by decide +kernel
theorem dL_sent_14 : decode cL_sent 14 = .ok (.ireturn, 1) := by decide +kernel
theorem dL_sent_15 : decode cL_sent 15 = .ok (.iconst 0, 1) := by decide +kernel
theorem dL_sent_16 : decode cL_sent 16 = .ok (.ireturn, 1) := by decide +kernel
theorem dL_wornShare_0 : decode cL_wornShare 0 = .ok (.aload_n 1, 1) := by decide +kernel
theorem dL_wornShare_1 : decode cL_wornShare 1 = .ok (.iconst 0, 1) := by decide +kernel
theorem dL_wornShare_2 : decode cL_wornShare 2 = .ok (.aload_n 0, 1) := by decide +kernel
theorem dL_wornShare_3 : decode cL_wornShare 3 = .ok (.invokevirtual 123, 3) := by decide +kernel
theorem dL_wornShare_6 : decode cL_wornShare 6 = .ok (.f2d, 1) := by decide +kernel
theorem dL_wornShare_7 : decode cL_wornShare 7 = .ok (.dastore, 1) := by decide +kernel
theorem dL_wornShare_8 : decode cL_wornShare 8 = .ok (.goto 6, 3) := by decide +kernel
theorem dL_wornShare_11 : decode cL_wornShare 11 = .ok (.astore_n 2, 1) := by decide +kernel
theorem dL_wornShare_12 : decode cL_wornShare 12 = .ok (.iconst 1, 1) := by decide +kernel
theorem dL_wornShare_13 : decode cL_wornShare 13 = .ok (.ireturn, 1) := by decide +kernel
theorem dL_wornShare_14 : decode cL_wornShare 14 = .ok (.iconst 0, 1) := by decide +kernel
theorem dL_wornShare_15 : decode cL_wornShare 15 = .ok (.ireturn, 1) := by decide +kernel
theorem dL_meanHardness_0 : decode cL_meanHardness 0 = .ok (.aload_n 1, 1) := by decide +kernel
theorem dL_meanHardness_1 : decode cL_meanHardness 1 = .ok (.iconst 0, 1) := by decide +kernel
theorem dL_meanHardness_2 : decode cL_meanHardness 2 = .ok (.aload_n 0, 1) := by decide +kernel
theorem dL_meanHardness_3 : decode cL_meanHardness 3 = .ok (.invokevirtual 129, 3) := by decide +kernel
theorem dL_meanHardness_6 : decode cL_meanHardness 6 = .ok (.dastore, 1) := by decide +kernel
theorem dL_meanHardness_7 : decode cL_meanHardness 7 = .ok (.goto 6, 3) := by decide +kernel
theorem dL_meanHardness_10 : decode cL_meanHardness 10 = .ok (.astore_n 2, 1) := by decide +kernel
theorem dL_meanHardness_11 : decode cL_meanHardness 11 = .ok (.iconst 1, 1) := by decide +kernel
theorem dL_meanHardness_12 : decode cL_meanHardness 12 = .ok (.ireturn, 1) := by decide +kernel
theorem dL_meanHardness_13 : decode cL_meanHardness 13 = .ok (.iconst 0, 1) := by decide +kernel
theorem dL_meanHardness_14 : decode cL_meanHardness 14 = .ok (.ireturn, 1) := by decide +kernel
/-! decode rows of a long code, by its bytes packed into one number -/
def dk_rd (c : ByteArray) (p : Nat) : Option UInt8 := if h : p < c.size then some c[p] else none
theorem dk_u1 {c : ByteArray} {p : Nat} {b : UInt8} (h : dk_rd c p = some b) : (ReaderT.run (Reader.u1 (ε := DecodeError)) c).run p = .ok (b.toNat, p + 1) := by
  unfold dk_rd at h
  by_cases hp : p < c.size
  · rw [dif_pos hp] at h
    have hb := Option.some.inj h
    have e : (ReaderT.run (Reader.u1 (ε := DecodeError)) c).run p = (if h : p < c.size then ((MonadStateOf.set (p + 1) >>= fun _ => Pure.pure (c[p]'h).toNat : Decoder Nat)) else throw (HasTruncated.truncated p)) c p := rfl
    rw [e, dif_pos hp, ← hb]
    rfl
  · rw [dif_neg hp] at h; cases h
theorem dk_rb {α β : Type} (r : Decoder α) (k : α → Decoder β) (c : ByteArray) (p : Nat) : (ReaderT.run (r >>= k) c).run p = ((ReaderT.run r c).run p).bind (fun x => (ReaderT.run (k x.1) c).run x.2) := rfl
theorem dk_rp {α : Type} (a : α) (c : ByteArray) (p : Nat) : (ReaderT.run (pure a : Decoder α) c).run p = .ok (a, p) := rfl
theorem dk_u2 {c : ByteArray} {p : Nat} {a b : UInt8} (h0 : dk_rd c p = some a) (h1 : dk_rd c (p + 1) = some b) : (ReaderT.run (Reader.u2 (ε := DecodeError)) c).run p = .ok (a.toNat * 256 + b.toNat, p + 2) := by
  unfold Reader.u2
  rw [dk_rb, dk_u1 h0]
  simp only [Except.bind]
  rw [dk_rb, dk_u1 h1]
  rfl
theorem dk_s2 {c : ByteArray} {p : Nat} {a b : UInt8} (h0 : dk_rd c p = some a) (h1 : dk_rd c (p + 1) = some b) : (ReaderT.run (Reader.s2 (ε := DecodeError)) c).run p = .ok (Reader.signed 16 (a.toNat * 256 + b.toNat), p + 2) := by
  have h := dk_u2 h0 h1
  show ((ReaderT.run (Reader.u2 (ε := DecodeError)) c).run p).bind (fun x => .ok (Reader.signed 16 x.1, x.2)) = _
  rw [h]; rfl
theorem dk_s1 {c : ByteArray} {p : Nat} {a : UInt8} (h0 : dk_rd c p = some a) : (ReaderT.run (Reader.s1 (ε := DecodeError)) c).run p = .ok (Reader.signed 8 a.toNat, p + 1) := by
  have h := dk_u1 h0
  show ((ReaderT.run (Reader.u1 (ε := DecodeError)) c).run p).bind (fun x => .ok (Reader.signed 8 x.1, x.2)) = _
  rw [h]; rfl

set_option maxRecDepth 100000 in
theorem dk_187 {c : ByteArray} {p : Nat} {a b : UInt8} (h0 : dk_rd c p = some 187) (h1 : dk_rd c (p + 1) = some a) (h2 : dk_rd c (p + 1 + 1) = some b) : decode c p = .ok (.new (a.toNat * 256 + b.toNat), 3) := by
  unfold decode Reader.runAt Decoder.instr
  rw [dk_rb, dk_u1 h0]
  show ((ReaderT.run (Reader.u2 >>= fun v => (Pure.pure (Instr.new v) : Decoder Instr)) c).run (p + 1)).bind (fun x => Except.ok (x.1, x.2 - p)) = _
  rw [dk_rb, dk_u2 h1 h2]
  show Except.ok ((.new (a.toNat * 256 + b.toNat) : Instr), p + 1 + 2 - p) = _
  rw [show p + 1 + 2 - p = 3 by omega]

set_option maxRecDepth 100000 in
theorem dk_89 {c : ByteArray} {p : Nat} (h0 : dk_rd c p = some 89) : decode c p = .ok (.dup, 1) := by
  unfold decode Reader.runAt Decoder.instr
  rw [dk_rb, dk_u1 h0]
  show Except.ok ((.dup : Instr), p + 1 - p) = _
  rw [show p + 1 - p = 1 by omega]

set_option maxRecDepth 100000 in
theorem dk_183 {c : ByteArray} {p : Nat} {a b : UInt8} (h0 : dk_rd c p = some 183) (h1 : dk_rd c (p + 1) = some a) (h2 : dk_rd c (p + 1 + 1) = some b) : decode c p = .ok (.invokespecial (a.toNat * 256 + b.toNat), 3) := by
  unfold decode Reader.runAt Decoder.instr
  rw [dk_rb, dk_u1 h0]
  show ((ReaderT.run (Reader.u2 >>= fun v => (Pure.pure (Instr.invokespecial v) : Decoder Instr)) c).run (p + 1)).bind (fun x => Except.ok (x.1, x.2 - p)) = _
  rw [dk_rb, dk_u2 h1 h2]
  show Except.ok ((.invokespecial (a.toNat * 256 + b.toNat) : Instr), p + 1 + 2 - p) = _
  rw [show p + 1 + 2 - p = 3 by omega]

set_option maxRecDepth 100000 in
theorem dk_76 {c : ByteArray} {p : Nat} (h0 : dk_rd c p = some 76) : decode c p = .ok (.astore_n 1, 1) := by
  unfold decode Reader.runAt Decoder.instr
  rw [dk_rb, dk_u1 h0]
  show Except.ok ((.astore_n 1 : Instr), p + 1 - p) = _
  rw [show p + 1 - p = 1 by omega]

set_option maxRecDepth 100000 in
theorem dk_77 {c : ByteArray} {p : Nat} (h0 : dk_rd c p = some 77) : decode c p = .ok (.astore_n 2, 1) := by
  unfold decode Reader.runAt Decoder.instr
  rw [dk_rb, dk_u1 h0]
  show Except.ok ((.astore_n 2 : Instr), p + 1 - p) = _
  rw [show p + 1 - p = 1 by omega]

set_option maxRecDepth 100000 in
theorem dk_4 {c : ByteArray} {p : Nat} (h0 : dk_rd c p = some 4) : decode c p = .ok (.iconst 1, 1) := by
  unfold decode Reader.runAt Decoder.instr
  rw [dk_rb, dk_u1 h0]
  show Except.ok ((.iconst 1 : Instr), p + 1 - p) = _
  rw [show p + 1 - p = 1 by omega]

set_option maxRecDepth 100000 in
theorem dk_78 {c : ByteArray} {p : Nat} (h0 : dk_rd c p = some 78) : decode c p = .ok (.astore_n 3, 1) := by
  unfold decode Reader.runAt Decoder.instr
  rw [dk_rb, dk_u1 h0]
  show Except.ok ((.astore_n 3 : Instr), p + 1 - p) = _
  rw [show p + 1 - p = 1 by omega]

set_option maxRecDepth 100000 in
theorem dk_58 {c : ByteArray} {p : Nat} {a : UInt8} (h0 : dk_rd c p = some 58) (h1 : dk_rd c (p + 1) = some a) : decode c p = .ok (.astore a.toNat, 2) := by
  unfold decode Reader.runAt Decoder.instr
  rw [dk_rb, dk_u1 h0]
  show ((ReaderT.run (Reader.u1 >>= fun v => (Pure.pure (Instr.astore v) : Decoder Instr)) c).run (p + 1)).bind (fun x => Except.ok (x.1, x.2 - p)) = _
  rw [dk_rb, dk_u1 h1]
  show Except.ok ((.astore a.toNat : Instr), p + 1 + 1 - p) = _
  rw [show p + 1 + 1 - p = 2 by omega]

set_option maxRecDepth 100000 in
theorem dk_3 {c : ByteArray} {p : Nat} (h0 : dk_rd c p = some 3) : decode c p = .ok (.iconst 0, 1) := by
  unfold decode Reader.runAt Decoder.instr
  rw [dk_rb, dk_u1 h0]
  show Except.ok ((.iconst 0 : Instr), p + 1 - p) = _
  rw [show p + 1 - p = 1 by omega]

set_option maxRecDepth 100000 in
theorem dk_54 {c : ByteArray} {p : Nat} {a : UInt8} (h0 : dk_rd c p = some 54) (h1 : dk_rd c (p + 1) = some a) : decode c p = .ok (.istore a.toNat, 2) := by
  unfold decode Reader.runAt Decoder.instr
  rw [dk_rb, dk_u1 h0]
  show ((ReaderT.run (Reader.u1 >>= fun v => (Pure.pure (Instr.istore v) : Decoder Instr)) c).run (p + 1)).bind (fun x => Except.ok (x.1, x.2 - p)) = _
  rw [dk_rb, dk_u1 h1]
  show Except.ok ((.istore a.toNat : Instr), p + 1 + 1 - p) = _
  rw [show p + 1 + 1 - p = 2 by omega]

set_option maxRecDepth 100000 in
theorem dk_21 {c : ByteArray} {p : Nat} {a : UInt8} (h0 : dk_rd c p = some 21) (h1 : dk_rd c (p + 1) = some a) : decode c p = .ok (.iload a.toNat, 2) := by
  unfold decode Reader.runAt Decoder.instr
  rw [dk_rb, dk_u1 h0]
  show ((ReaderT.run (Reader.u1 >>= fun v => (Pure.pure (Instr.iload v) : Decoder Instr)) c).run (p + 1)).bind (fun x => Except.ok (x.1, x.2 - p)) = _
  rw [dk_rb, dk_u1 h1]
  show Except.ok ((.iload a.toNat : Instr), p + 1 + 1 - p) = _
  rw [show p + 1 + 1 - p = 2 by omega]

set_option maxRecDepth 100000 in
theorem dk_42 {c : ByteArray} {p : Nat} (h0 : dk_rd c p = some 42) : decode c p = .ok (.aload_n 0, 1) := by
  unfold decode Reader.runAt Decoder.instr
  rw [dk_rb, dk_u1 h0]
  show Except.ok ((.aload_n 0 : Instr), p + 1 - p) = _
  rw [show p + 1 - p = 1 by omega]

set_option maxRecDepth 100000 in
theorem dk_190 {c : ByteArray} {p : Nat} (h0 : dk_rd c p = some 190) : decode c p = .ok (.arraylength, 1) := by
  unfold decode Reader.runAt Decoder.instr
  rw [dk_rb, dk_u1 h0]
  show Except.ok ((.arraylength : Instr), p + 1 - p) = _
  rw [show p + 1 - p = 1 by omega]

set_option maxRecDepth 100000 in
theorem dk_8 {c : ByteArray} {p : Nat} (h0 : dk_rd c p = some 8) : decode c p = .ok (.iconst 5, 1) := by
  unfold decode Reader.runAt Decoder.instr
  rw [dk_rb, dk_u1 h0]
  show Except.ok ((.iconst 5 : Instr), p + 1 - p) = _
  rw [show p + 1 - p = 1 by omega]

set_option maxRecDepth 100000 in
theorem dk_100 {c : ByteArray} {p : Nat} (h0 : dk_rd c p = some 100) : decode c p = .ok (.isub, 1) := by
  unfold decode Reader.runAt Decoder.instr
  rw [dk_rb, dk_u1 h0]
  show Except.ok ((.isub : Instr), p + 1 - p) = _
  rw [show p + 1 - p = 1 by omega]

set_option maxRecDepth 100000 in
theorem dk_163 {c : ByteArray} {p : Nat} {a b : UInt8} (h0 : dk_rd c p = some 163) (h1 : dk_rd c (p + 1) = some a) (h2 : dk_rd c (p + 1 + 1) = some b) : decode c p = .ok (.if_icmp .gt (Reader.signed 16 (a.toNat * 256 + b.toNat)), 3) := by
  unfold decode Reader.runAt Decoder.instr
  rw [dk_rb, dk_u1 h0]
  show ((ReaderT.run (Reader.s2 >>= fun v => (Pure.pure (Instr.if_icmp .gt v) : Decoder Instr)) c).run (p + 1)).bind (fun x => Except.ok (x.1, x.2 - p)) = _
  rw [dk_rb, dk_s2 h1 h2]
  show Except.ok ((.if_icmp .gt (Reader.signed 16 (a.toNat * 256 + b.toNat)) : Instr), p + 1 + 2 - p) = _
  rw [show p + 1 + 2 - p = 3 by omega]

set_option maxRecDepth 100000 in
theorem dk_46 {c : ByteArray} {p : Nat} (h0 : dk_rd c p = some 46) : decode c p = .ok (.iaload, 1) := by
  unfold decode Reader.runAt Decoder.instr
  rw [dk_rb, dk_u1 h0]
  show Except.ok ((.iaload : Instr), p + 1 - p) = _
  rw [show p + 1 - p = 1 by omega]

set_option maxRecDepth 100000 in
theorem dk_16 {c : ByteArray} {p : Nat} {a : UInt8} (h0 : dk_rd c p = some 16) (h1 : dk_rd c (p + 1) = some a) : decode c p = .ok (.bipush (Reader.signed 8 a.toNat), 2) := by
  unfold decode Reader.runAt Decoder.instr
  rw [dk_rb, dk_u1 h0]
  show ((ReaderT.run (Reader.s1 >>= fun v => (Pure.pure (Instr.bipush v) : Decoder Instr)) c).run (p + 1)).bind (fun x => Except.ok (x.1, x.2 - p)) = _
  rw [dk_rb, dk_s1 h1]
  show Except.ok ((.bipush (Reader.signed 8 a.toNat) : Instr), p + 1 + 1 - p) = _
  rw [show p + 1 + 1 - p = 2 by omega]

set_option maxRecDepth 100000 in
theorem dk_126 {c : ByteArray} {p : Nat} (h0 : dk_rd c p = some 126) : decode c p = .ok (.iand, 1) := by
  unfold decode Reader.runAt Decoder.instr
  rw [dk_rb, dk_u1 h0]
  show Except.ok ((.iand : Instr), p + 1 - p) = _
  rw [show p + 1 - p = 1 by omega]

set_option maxRecDepth 100000 in
theorem dk_43 {c : ByteArray} {p : Nat} (h0 : dk_rd c p = some 43) : decode c p = .ok (.aload_n 1, 1) := by
  unfold decode Reader.runAt Decoder.instr
  rw [dk_rb, dk_u1 h0]
  show Except.ok ((.aload_n 1 : Instr), p + 1 - p) = _
  rw [show p + 1 - p = 1 by omega]

set_option maxRecDepth 100000 in
theorem dk_96 {c : ByteArray} {p : Nat} (h0 : dk_rd c p = some 96) : decode c p = .ok (.iadd, 1) := by
  unfold decode Reader.runAt Decoder.instr
  rw [dk_rb, dk_u1 h0]
  show Except.ok ((.iadd : Instr), p + 1 - p) = _
  rw [show p + 1 - p = 1 by omega]

set_option maxRecDepth 100000 in
theorem dk_146 {c : ByteArray} {p : Nat} (h0 : dk_rd c p = some 146) : decode c p = .ok (.i2c, 1) := by
  unfold decode Reader.runAt Decoder.instr
  rw [dk_rb, dk_u1 h0]
  show Except.ok ((.i2c : Instr), p + 1 - p) = _
  rw [show p + 1 - p = 1 by omega]

set_option maxRecDepth 100000 in
theorem dk_5 {c : ByteArray} {p : Nat} (h0 : dk_rd c p = some 5) : decode c p = .ok (.iconst 2, 1) := by
  unfold decode Reader.runAt Decoder.instr
  rw [dk_rb, dk_u1 h0]
  show Except.ok ((.iconst 2 : Instr), p + 1 - p) = _
  rw [show p + 1 - p = 1 by omega]

set_option maxRecDepth 100000 in
theorem dk_6 {c : ByteArray} {p : Nat} (h0 : dk_rd c p = some 6) : decode c p = .ok (.iconst 3, 1) := by
  unfold decode Reader.runAt Decoder.instr
  rw [dk_rb, dk_u1 h0]
  show Except.ok ((.iconst 3 : Instr), p + 1 - p) = _
  rw [show p + 1 - p = 1 by omega]

set_option maxRecDepth 100000 in
theorem dk_7 {c : ByteArray} {p : Nat} (h0 : dk_rd c p = some 7) : decode c p = .ok (.iconst 4, 1) := by
  unfold decode Reader.runAt Decoder.instr
  rw [dk_rb, dk_u1 h0]
  show Except.ok ((.iconst 4 : Instr), p + 1 - p) = _
  rw [show p + 1 - p = 1 by omega]

set_option maxRecDepth 100000 in
theorem dk_45 {c : ByteArray} {p : Nat} (h0 : dk_rd c p = some 45) : decode c p = .ok (.aload_n 3, 1) := by
  unfold decode Reader.runAt Decoder.instr
  rw [dk_rb, dk_u1 h0]
  show Except.ok ((.aload_n 3 : Instr), p + 1 - p) = _
  rw [show p + 1 - p = 1 by omega]

set_option maxRecDepth 100000 in
theorem dk_184 {c : ByteArray} {p : Nat} {a b : UInt8} (h0 : dk_rd c p = some 184) (h1 : dk_rd c (p + 1) = some a) (h2 : dk_rd c (p + 1 + 1) = some b) : decode c p = .ok (.invokestatic (a.toNat * 256 + b.toNat), 3) := by
  unfold decode Reader.runAt Decoder.instr
  rw [dk_rb, dk_u1 h0]
  show ((ReaderT.run (Reader.u2 >>= fun v => (Pure.pure (Instr.invokestatic v) : Decoder Instr)) c).run (p + 1)).bind (fun x => Except.ok (x.1, x.2 - p)) = _
  rw [dk_rb, dk_u2 h1 h2]
  show Except.ok ((.invokestatic (a.toNat * 256 + b.toNat) : Instr), p + 1 + 2 - p) = _
  rw [show p + 1 + 2 - p = 3 by omega]

set_option maxRecDepth 100000 in
theorem dk_44 {c : ByteArray} {p : Nat} (h0 : dk_rd c p = some 44) : decode c p = .ok (.aload_n 2, 1) := by
  unfold decode Reader.runAt Decoder.instr
  rw [dk_rb, dk_u1 h0]
  show Except.ok ((.aload_n 2 : Instr), p + 1 - p) = _
  rw [show p + 1 - p = 1 by omega]

set_option maxRecDepth 100000 in
theorem dk_182 {c : ByteArray} {p : Nat} {a b : UInt8} (h0 : dk_rd c p = some 182) (h1 : dk_rd c (p + 1) = some a) (h2 : dk_rd c (p + 1 + 1) = some b) : decode c p = .ok (.invokevirtual (a.toNat * 256 + b.toNat), 3) := by
  unfold decode Reader.runAt Decoder.instr
  rw [dk_rb, dk_u1 h0]
  show ((ReaderT.run (Reader.u2 >>= fun v => (Pure.pure (Instr.invokevirtual v) : Decoder Instr)) c).run (p + 1)).bind (fun x => Except.ok (x.1, x.2 - p)) = _
  rw [dk_rb, dk_u2 h1 h2]
  show Except.ok ((.invokevirtual (a.toNat * 256 + b.toNat) : Instr), p + 1 + 2 - p) = _
  rw [show p + 1 + 2 - p = 3 by omega]

set_option maxRecDepth 100000 in
theorem dk_167 {c : ByteArray} {p : Nat} {a b : UInt8} (h0 : dk_rd c p = some 167) (h1 : dk_rd c (p + 1) = some a) (h2 : dk_rd c (p + 1 + 1) = some b) : decode c p = .ok (.goto (Reader.signed 16 (a.toNat * 256 + b.toNat)), 3) := by
  unfold decode Reader.runAt Decoder.instr
  rw [dk_rb, dk_u1 h0]
  show ((ReaderT.run (Reader.s2 >>= fun v => (Pure.pure (Instr.goto v) : Decoder Instr)) c).run (p + 1)).bind (fun x => Except.ok (x.1, x.2 - p)) = _
  rw [dk_rb, dk_s2 h1 h2]
  show Except.ok ((.goto (Reader.signed 16 (a.toNat * 256 + b.toNat)) : Instr), p + 1 + 2 - p) = _
  rw [show p + 1 + 2 - p = 3 by omega]

set_option maxRecDepth 100000 in
theorem dk_25 {c : ByteArray} {p : Nat} {a : UInt8} (h0 : dk_rd c p = some 25) (h1 : dk_rd c (p + 1) = some a) : decode c p = .ok (.aload a.toNat, 2) := by
  unfold decode Reader.runAt Decoder.instr
  rw [dk_rb, dk_u1 h0]
  show ((ReaderT.run (Reader.u1 >>= fun v => (Pure.pure (Instr.aload v) : Decoder Instr)) c).run (p + 1)).bind (fun x => Except.ok (x.1, x.2 - p)) = _
  rw [dk_rb, dk_u1 h1]
  show Except.ok ((.aload a.toNat : Instr), p + 1 + 1 - p) = _
  rw [show p + 1 + 1 - p = 2 by omega]

set_option maxRecDepth 100000 in
theorem dk_56 {c : ByteArray} {p : Nat} {a : UInt8} (h0 : dk_rd c p = some 56) (h1 : dk_rd c (p + 1) = some a) : decode c p = .ok (.fstore a.toNat, 2) := by
  unfold decode Reader.runAt Decoder.instr
  rw [dk_rb, dk_u1 h0]
  show ((ReaderT.run (Reader.u1 >>= fun v => (Pure.pure (Instr.fstore v) : Decoder Instr)) c).run (p + 1)).bind (fun x => Except.ok (x.1, x.2 - p)) = _
  rw [dk_rb, dk_u1 h1]
  show Except.ok ((.fstore a.toNat : Instr), p + 1 + 1 - p) = _
  rw [show p + 1 + 1 - p = 2 by omega]

set_option maxRecDepth 100000 in
theorem dk_57 {c : ByteArray} {p : Nat} {a : UInt8} (h0 : dk_rd c p = some 57) (h1 : dk_rd c (p + 1) = some a) : decode c p = .ok (.dstore a.toNat, 2) := by
  unfold decode Reader.runAt Decoder.instr
  rw [dk_rb, dk_u1 h0]
  show ((ReaderT.run (Reader.u1 >>= fun v => (Pure.pure (Instr.dstore v) : Decoder Instr)) c).run (p + 1)).bind (fun x => Except.ok (x.1, x.2 - p)) = _
  rw [dk_rb, dk_u1 h1]
  show Except.ok ((.dstore a.toNat : Instr), p + 1 + 1 - p) = _
  rw [show p + 1 + 1 - p = 2 by omega]

set_option maxRecDepth 100000 in
theorem dk_148 {c : ByteArray} {p : Nat} (h0 : dk_rd c p = some 148) : decode c p = .ok (.lcmp, 1) := by
  unfold decode Reader.runAt Decoder.instr
  rw [dk_rb, dk_u1 h0]
  show Except.ok ((.lcmp : Instr), p + 1 - p) = _
  rw [show p + 1 - p = 1 by omega]

set_option maxRecDepth 100000 in
theorem dk_153 {c : ByteArray} {p : Nat} {a b : UInt8} (h0 : dk_rd c p = some 153) (h1 : dk_rd c (p + 1) = some a) (h2 : dk_rd c (p + 1 + 1) = some b) : decode c p = .ok (.ifCond .eq (Reader.signed 16 (a.toNat * 256 + b.toNat)), 3) := by
  unfold decode Reader.runAt Decoder.instr
  rw [dk_rb, dk_u1 h0]
  show ((ReaderT.run (Reader.s2 >>= fun v => (Pure.pure (Instr.ifCond .eq v) : Decoder Instr)) c).run (p + 1)).bind (fun x => Except.ok (x.1, x.2 - p)) = _
  rw [dk_rb, dk_s2 h1 h2]
  show Except.ok ((.ifCond .eq (Reader.signed 16 (a.toNat * 256 + b.toNat)) : Instr), p + 1 + 2 - p) = _
  rw [show p + 1 + 2 - p = 3 by omega]

set_option maxRecDepth 100000 in
theorem dk_172 {c : ByteArray} {p : Nat} (h0 : dk_rd c p = some 172) : decode c p = .ok (.ireturn, 1) := by
  unfold decode Reader.runAt Decoder.instr
  rw [dk_rb, dk_u1 h0]
  show Except.ok ((.ireturn : Instr), p + 1 - p) = _
  rw [show p + 1 - p = 1 by omega]

set_option maxRecDepth 100000 in
theorem dk_87 {c : ByteArray} {p : Nat} (h0 : dk_rd c p = some 87) : decode c p = .ok (.pop, 1) := by
  unfold decode Reader.runAt Decoder.instr
  rw [dk_rb, dk_u1 h0]
  show Except.ok ((.pop : Instr), p + 1 - p) = _
  rw [show p + 1 - p = 1 by omega]

def cL_law_N : Nat := 745841805701719767330988592462430548228666250428805008307268359077026416494026658843560766616436706781133080348885962084628786005459887739353347862028334180085954036568955140745901429475053448090112134555438205958529017149523108913240676311201576445585665212882876869034447414544316021359722085321565666331021871846400093568112690564084139260715826819637994716919280132930198221206791673325991544083903259486219855741292532972456260926751451383170510953615985935361638529842563504528499386532189905076047154543689074247211602904180054637292793082843422654861427939954501627516577824622988835590845567730264524692124654554146394244617410608922798917553283207644112704407477903632351679756776176198268160975672455573968976820898879087471851416818304220217988029561057216745511963966673116366688750272319078983650793018787975906901051157205890734173639403015962920692234280150846728996498767308570417170125294097763532781794773460645980137313592135831948603210312190137943751444890907475342481526582263020124233311948177065043111415632732943038886356423576852823221509492363426335349006910872697707625892363917928285331476276791617340112932581858793002312737980796864030788226935950213821449511703811711453058900297095608678279968713115667412152289973732926660591993315696731703636607915927904531088851846220309120163794407034403018021036954978011857117341787015110203113507282133689712404694919650808214962384832817682650796537951688988588311520317593901886974061248959698493815981222763934952815924506353205035680750085373643208067868446979409275139869832763744591089653039785564742146300927235883976236489413968472906357173896565034250001247253322883876825242576578984454401588658546371462239148653808721723523361472564773630604970238991836455047087647285089668742931993919337692806202164653620817545623672161257814354524956918440363097485404822781371654712519345845933456762753624725709339798626053625736168156009993458045277539970832136650967574905210155826327915226470926932562013138856111222974816532275236630483653641440101017344252584786741194148318262618272131202021831289406767752851865818120056414199864084937265227932442105172820510754697861026444720425245557428804196534082368401627879066375300919822149722937811952104373231491423343969379275210990023732210304297341231585872728682106437942199952709352028821973084750658659787976083951416783959798537278521679340295468107684032746000654765280933752247816410455122237414799725128727105755655922003270508522143537900037113627680188696988592462603457481595093648273621727183298919933256195730759854642514336881907529613905801297955005833321011182955031772360131709864380832774847940475152597628264010350538248010014343325281449768336144701497994541534779351763505307893444207704463208037479507313039071561854906297444197511638416524410734316814271769225165547669599861770346553193961270126613847956989435031982224379983477519394939721409030425151576093414898861137538939856878292560895861246710111544781732449912389413568273360177735092150092015437006362529843281169022388902976347178012199584024300472387710835445811623240935755119313552995777951354354586764806506197768676712186895910679551293575659095849867448584180251639123626735821773012853770322364798482207414063522567874952940530481600784897101365226634806381481161768417981992104456395663998154666559499379669866151058283692219
set_option maxRecDepth 100000 in
theorem cL_law_l : cL_law.data.toList = (List.range 1389).map (fun p => UInt8.ofNat (cL_law_N >>> (8 * p) % 256)) := by decide +kernel
set_option maxRecDepth 100000 in
theorem cL_law_at (p : Nat) (h : p < 1389) : dk_rd cL_law p = some (UInt8.ofNat (cL_law_N >>> (8 * p) % 256)) := by
  have hs : cL_law.size = 1389 := by
    show cL_law.data.size = 1389
    rw [← Array.length_toList, cL_law_l, List.length_map, List.length_range]
  unfold dk_rd
  rw [dif_pos (by rw [hs]; exact h)]
  have h1 : cL_law.data.toList[p]? = some (UInt8.ofNat (cL_law_N >>> (8 * p) % 256)) := by
    rw [cL_law_l, List.getElem?_map, List.getElem?_range h]; rfl
  have h2 : cL_law.data.toList[p]? = some cL_law[p] := by
    rw [Array.getElem?_toList]
    exact Array.getElem?_eq_getElem _
  rw [h1] at h2
  exact h2.symm

theorem dL_law_0 : decode cL_law 0 = .ok (.new 8, 3) := (dk_187 (a := 0) (b := 8) ((cL_law_at 0 (by decide)).trans (by decide +kernel)) ((cL_law_at 1 (by decide)).trans (by decide +kernel)) ((cL_law_at 2 (by decide)).trans (by decide +kernel))).trans (by decide +kernel)
theorem dL_law_3 : decode cL_law 3 = .ok (.dup, 1) := dk_89 ((cL_law_at 3 (by decide)).trans (by decide +kernel))
theorem dL_law_4 : decode cL_law 4 = .ok (.invokespecial 133, 3) := (dk_183 (a := 0) (b := 133) ((cL_law_at 4 (by decide)).trans (by decide +kernel)) ((cL_law_at 5 (by decide)).trans (by decide +kernel)) ((cL_law_at 6 (by decide)).trans (by decide +kernel))).trans (by decide +kernel)
theorem dL_law_7 : decode cL_law 7 = .ok (.astore_n 1, 1) := dk_76 ((cL_law_at 7 (by decide)).trans (by decide +kernel))
theorem dL_law_8 : decode cL_law 8 = .ok (.new 134, 3) := (dk_187 (a := 0) (b := 134) ((cL_law_at 8 (by decide)).trans (by decide +kernel)) ((cL_law_at 9 (by decide)).trans (by decide +kernel)) ((cL_law_at 10 (by decide)).trans (by decide +kernel))).trans (by decide +kernel)
theorem dL_law_11 : decode cL_law 11 = .ok (.dup, 1) := dk_89 ((cL_law_at 11 (by decide)).trans (by decide +kernel))
theorem dL_law_12 : decode cL_law 12 = .ok (.invokespecial 136, 3) := (dk_183 (a := 0) (b := 136) ((cL_law_at 12 (by decide)).trans (by decide +kernel)) ((cL_law_at 13 (by decide)).trans (by decide +kernel)) ((cL_law_at 14 (by decide)).trans (by decide +kernel))).trans (by decide +kernel)
theorem dL_law_15 : decode cL_law 15 = .ok (.astore_n 2, 1) := dk_77 ((cL_law_at 15 (by decide)).trans (by decide +kernel))
theorem dL_law_16 : decode cL_law 16 = .ok (.iconst 1, 1) := dk_4 ((cL_law_at 16 (by decide)).trans (by decide +kernel))
theorem dL_law_17 : decode cL_law 17 = .ok (.newarray .long, 2) := by decide +kernel
theorem dL_law_19 : decode cL_law 19 = .ok (.astore_n 3, 1) := dk_78 ((cL_law_at 19 (by decide)).trans (by decide +kernel))
theorem dL_law_20 : decode cL_law 20 = .ok (.iconst 1, 1) := dk_4 ((cL_law_at 20 (by decide)).trans (by decide +kernel))
theorem dL_law_21 : decode cL_law 21 = .ok (.newarray .double, 2) := by decide +kernel
theorem dL_law_23 : decode cL_law 23 = .ok (.astore 4, 2) := (dk_58 (a := 4) ((cL_law_at 23 (by decide)).trans (by decide +kernel)) ((cL_law_at 24 (by decide)).trans (by decide +kernel))).trans (by decide +kernel)
theorem dL_law_25 : decode cL_law 25 = .ok (.iconst 0, 1) := dk_3 ((cL_law_at 25 (by decide)).trans (by decide +kernel))
theorem dL_law_26 : decode cL_law 26 = .ok (.istore 5, 2) := (dk_54 (a := 5) ((cL_law_at 26 (by decide)).trans (by decide +kernel)) ((cL_law_at 27 (by decide)).trans (by decide +kernel))).trans (by decide +kernel)
theorem dL_law_28 : decode cL_law 28 = .ok (.iload 5, 2) := (dk_21 (a := 5) ((cL_law_at 28 (by decide)).trans (by decide +kernel)) ((cL_law_at 29 (by decide)).trans (by decide +kernel))).trans (by decide +kernel)
theorem dL_law_30 : decode cL_law 30 = .ok (.aload_n 0, 1) := dk_42 ((cL_law_at 30 (by decide)).trans (by decide +kernel))
theorem dL_law_31 : decode cL_law 31 = .ok (.arraylength, 1) := dk_190 ((cL_law_at 31 (by decide)).trans (by decide +kernel))
theorem dL_law_32 : decode cL_law 32 = .ok (.iconst 5, 1) := dk_8 ((cL_law_at 32 (by decide)).trans (by decide +kernel))
theorem dL_law_33 : decode cL_law 33 = .ok (.isub, 1) := dk_100 ((cL_law_at 33 (by decide)).trans (by decide +kernel))
theorem dL_law_34 : decode cL_law 34 = .ok (.if_icmp .gt 1353, 3) := (dk_163 (a := 5) (b := 73) ((cL_law_at 34 (by decide)).trans (by decide +kernel)) ((cL_law_at 35 (by decide)).trans (by decide +kernel)) ((cL_law_at 36 (by decide)).trans (by decide +kernel))).trans (by decide +kernel)
theorem dL_law_37 : decode cL_law 37 = .ok (.aload_n 0, 1) := dk_42 ((cL_law_at 37 (by decide)).trans (by decide +kernel))
theorem dL_law_38 : decode cL_law 38 = .ok (.iload 5, 2) := (dk_21 (a := 5) ((cL_law_at 38 (by decide)).trans (by decide +kernel)) ((cL_law_at 39 (by decide)).trans (by decide +kernel))).trans (by decide +kernel)
theorem dL_law_40 : decode cL_law 40 = .ok (.iaload, 1) := dk_46 ((cL_law_at 40 (by decide)).trans (by decide +kernel))
theorem dL_law_41 : decode cL_law 41 = .ok (.bipush 63, 2) := (dk_16 (a := 63) ((cL_law_at 41 (by decide)).trans (by decide +kernel)) ((cL_law_at 42 (by decide)).trans (by decide +kernel))).trans (by decide +kernel)
theorem dL_law_43 : decode cL_law 43 = .ok (.iand, 1) := dk_126 ((cL_law_at 43 (by decide)).trans (by decide +kernel))
theorem dL_law_44 : decode cL_law 44 = .ok (.tableswitch 1337 0 34 #[156, 222, 276, 304, 332, 372, 412, 452, 480, 520, 548, 576, 604, 632, 686, 714, 742, 782, 822, 850, 902, 930, 958, 986, 1014, 1042, 1070, 1112, 1168, 1208, 1248, 1276, 1293, 1310, 1324], 156) := by decide +kernel
theorem dL_law_200 : decode cL_law 200 = .ok (.aload_n 1, 1) := dk_43 ((cL_law_at 200 (by decide)).trans (by decide +kernel))
theorem dL_law_201 : decode cL_law 201 = .ok (.aload_n 0, 1) := dk_42 ((cL_law_at 201 (by decide)).trans (by decide +kernel))
theorem dL_law_202 : decode cL_law 202 = .ok (.iload 5, 2) := (dk_21 (a := 5) ((cL_law_at 202 (by decide)).trans (by decide +kernel)) ((cL_law_at 203 (by decide)).trans (by decide +kernel))).trans (by decide +kernel)
theorem dL_law_204 : decode cL_law 204 = .ok (.iconst 1, 1) := dk_4 ((cL_law_at 204 (by decide)).trans (by decide +kernel))
theorem dL_law_205 : decode cL_law 205 = .ok (.iadd, 1) := dk_96 ((cL_law_at 205 (by decide)).trans (by decide +kernel))
theorem dL_law_206 : decode cL_law 206 = .ok (.iaload, 1) := dk_46 ((cL_law_at 206 (by decide)).trans (by decide +kernel))
theorem dL_law_207 : decode cL_law 207 = .ok (.i2c, 1) := dk_146 ((cL_law_at 207 (by decide)).trans (by decide +kernel))
theorem dL_law_208 : decode cL_law 208 = .ok (.aload_n 0, 1) := dk_42 ((cL_law_at 208 (by decide)).trans (by decide +kernel))
theorem dL_law_209 : decode cL_law 209 = .ok (.iload 5, 2) := (dk_21 (a := 5) ((cL_law_at 209 (by decide)).trans (by decide +kernel)) ((cL_law_at 210 (by decide)).trans (by decide +kernel))).trans (by decide +kernel)
theorem dL_law_211 : decode cL_law 211 = .ok (.iconst 2, 1) := dk_5 ((cL_law_at 211 (by decide)).trans (by decide +kernel))
theorem dL_law_212 : decode cL_law 212 = .ok (.iadd, 1) := dk_96 ((cL_law_at 212 (by decide)).trans (by decide +kernel))
theorem dL_law_213 : decode cL_law 213 = .ok (.iaload, 1) := dk_46 ((cL_law_at 213 (by decide)).trans (by decide +kernel))
theorem dL_law_214 : decode cL_law 214 = .ok (.aload_n 0, 1) := dk_42 ((cL_law_at 214 (by decide)).trans (by decide +kernel))
theorem dL_law_215 : decode cL_law 215 = .ok (.iload 5, 2) := (dk_21 (a := 5) ((cL_law_at 215 (by decide)).trans (by decide +kernel)) ((cL_law_at 216 (by decide)).trans (by decide +kernel))).trans (by decide +kernel)
theorem dL_law_217 : decode cL_law 217 = .ok (.iconst 3, 1) := dk_6 ((cL_law_at 217 (by decide)).trans (by decide +kernel))
theorem dL_law_218 : decode cL_law 218 = .ok (.iadd, 1) := dk_96 ((cL_law_at 218 (by decide)).trans (by decide +kernel))
theorem dL_law_219 : decode cL_law 219 = .ok (.iaload, 1) := dk_46 ((cL_law_at 219 (by decide)).trans (by decide +kernel))
theorem dL_law_220 : decode cL_law 220 = .ok (.aload_n 0, 1) := dk_42 ((cL_law_at 220 (by decide)).trans (by decide +kernel))
theorem dL_law_221 : decode cL_law 221 = .ok (.iload 5, 2) := (dk_21 (a := 5) ((cL_law_at 221 (by decide)).trans (by decide +kernel)) ((cL_law_at 222 (by decide)).trans (by decide +kernel))).trans (by decide +kernel)
theorem dL_law_223 : decode cL_law 223 = .ok (.iconst 4, 1) := dk_7 ((cL_law_at 223 (by decide)).trans (by decide +kernel))
theorem dL_law_224 : decode cL_law 224 = .ok (.iadd, 1) := dk_96 ((cL_law_at 224 (by decide)).trans (by decide +kernel))
theorem dL_law_225 : decode cL_law 225 = .ok (.iaload, 1) := dk_46 ((cL_law_at 225 (by decide)).trans (by decide +kernel))
theorem dL_law_226 : decode cL_law 226 = .ok (.aload_n 3, 1) := dk_45 ((cL_law_at 226 (by decide)).trans (by decide +kernel))
theorem dL_law_227 : decode cL_law 227 = .ok (.invokestatic 137, 3) := (dk_184 (a := 0) (b := 137) ((cL_law_at 227 (by decide)).trans (by decide +kernel)) ((cL_law_at 228 (by decide)).trans (by decide +kernel)) ((cL_law_at 229 (by decide)).trans (by decide +kernel))).trans (by decide +kernel)
theorem dL_law_230 : decode cL_law 230 = .ok (.istore 6, 2) := (dk_54 (a := 6) ((cL_law_at 230 (by decide)).trans (by decide +kernel)) ((cL_law_at 231 (by decide)).trans (by decide +kernel))).trans (by decide +kernel)
theorem dL_law_232 : decode cL_law 232 = .ok (.aload_n 2, 1) := dk_44 ((cL_law_at 232 (by decide)).trans (by decide +kernel))
theorem dL_law_233 : decode cL_law 233 = .ok (.aload_n 0, 1) := dk_42 ((cL_law_at 233 (by decide)).trans (by decide +kernel))
theorem dL_law_234 : decode cL_law 234 = .ok (.iload 5, 2) := (dk_21 (a := 5) ((cL_law_at 234 (by decide)).trans (by decide +kernel)) ((cL_law_at 235 (by decide)).trans (by decide +kernel))).trans (by decide +kernel)
theorem dL_law_236 : decode cL_law 236 = .ok (.iconst 1, 1) := dk_4 ((cL_law_at 236 (by decide)).trans (by decide +kernel))
theorem dL_law_237 : decode cL_law 237 = .ok (.iadd, 1) := dk_96 ((cL_law_at 237 (by decide)).trans (by decide +kernel))
theorem dL_law_238 : decode cL_law 238 = .ok (.iaload, 1) := dk_46 ((cL_law_at 238 (by decide)).trans (by decide +kernel))
theorem dL_law_239 : decode cL_law 239 = .ok (.i2c, 1) := dk_146 ((cL_law_at 239 (by decide)).trans (by decide +kernel))
theorem dL_law_240 : decode cL_law 240 = .ok (.aload_n 0, 1) := dk_42 ((cL_law_at 240 (by decide)).trans (by decide +kernel))
theorem dL_law_241 : decode cL_law 241 = .ok (.iload 5, 2) := (dk_21 (a := 5) ((cL_law_at 241 (by decide)).trans (by decide +kernel)) ((cL_law_at 242 (by decide)).trans (by decide +kernel))).trans (by decide +kernel)
theorem dL_law_243 : decode cL_law 243 = .ok (.iconst 2, 1) := dk_5 ((cL_law_at 243 (by decide)).trans (by decide +kernel))
theorem dL_law_244 : decode cL_law 244 = .ok (.iadd, 1) := dk_96 ((cL_law_at 244 (by decide)).trans (by decide +kernel))
theorem dL_law_245 : decode cL_law 245 = .ok (.iaload, 1) := dk_46 ((cL_law_at 245 (by decide)).trans (by decide +kernel))
theorem dL_law_246 : decode cL_law 246 = .ok (.aload_n 0, 1) := dk_42 ((cL_law_at 246 (by decide)).trans (by decide +kernel))
theorem dL_law_247 : decode cL_law 247 = .ok (.iload 5, 2) := (dk_21 (a := 5) ((cL_law_at 247 (by decide)).trans (by decide +kernel)) ((cL_law_at 248 (by decide)).trans (by decide +kernel))).trans (by decide +kernel)
theorem dL_law_249 : decode cL_law 249 = .ok (.iconst 3, 1) := dk_6 ((cL_law_at 249 (by decide)).trans (by decide +kernel))
theorem dL_law_250 : decode cL_law 250 = .ok (.iadd, 1) := dk_96 ((cL_law_at 250 (by decide)).trans (by decide +kernel))
theorem dL_law_251 : decode cL_law 251 = .ok (.iaload, 1) := dk_46 ((cL_law_at 251 (by decide)).trans (by decide +kernel))
theorem dL_law_252 : decode cL_law 252 = .ok (.aload_n 0, 1) := dk_42 ((cL_law_at 252 (by decide)).trans (by decide +kernel))
theorem dL_law_253 : decode cL_law 253 = .ok (.iload 5, 2) := (dk_21 (a := 5) ((cL_law_at 253 (by decide)).trans (by decide +kernel)) ((cL_law_at 254 (by decide)).trans (by decide +kernel))).trans (by decide +kernel)
theorem dL_law_255 : decode cL_law 255 = .ok (.iconst 4, 1) := dk_7 ((cL_law_at 255 (by decide)).trans (by decide +kernel))
theorem dL_law_256 : decode cL_law 256 = .ok (.iadd, 1) := dk_96 ((cL_law_at 256 (by decide)).trans (by decide +kernel))
theorem dL_law_257 : decode cL_law 257 = .ok (.iaload, 1) := dk_46 ((cL_law_at 257 (by decide)).trans (by decide +kernel))
theorem dL_law_258 : decode cL_law 258 = .ok (.invokevirtual 142, 3) := (dk_182 (a := 0) (b := 142) ((cL_law_at 258 (by decide)).trans (by decide +kernel)) ((cL_law_at 259 (by decide)).trans (by decide +kernel)) ((cL_law_at 260 (by decide)).trans (by decide +kernel))).trans (by decide +kernel)
theorem dL_law_261 : decode cL_law 261 = .ok (.istore 7, 2) := (dk_54 (a := 7) ((cL_law_at 261 (by decide)).trans (by decide +kernel)) ((cL_law_at 262 (by decide)).trans (by decide +kernel))).trans (by decide +kernel)
theorem dL_law_263 : decode cL_law 263 = .ok (.goto 1118, 3) := (dk_167 (a := 4) (b := 94) ((cL_law_at 263 (by decide)).trans (by decide +kernel)) ((cL_law_at 264 (by decide)).trans (by decide +kernel)) ((cL_law_at 265 (by decide)).trans (by decide +kernel))).trans (by decide +kernel)
theorem dL_law_266 : decode cL_law 266 = .ok (.aload_n 1, 1) := dk_43 ((cL_law_at 266 (by decide)).trans (by decide +kernel))
theorem dL_law_267 : decode cL_law 267 = .ok (.aload_n 0, 1) := dk_42 ((cL_law_at 267 (by decide)).trans (by decide +kernel))
theorem dL_law_268 : decode cL_law 268 = .ok (.iload 5, 2) := (dk_21 (a := 5) ((cL_law_at 268 (by decide)).trans (by decide +kernel)) ((cL_law_at 269 (by decide)).trans (by decide +kernel))).trans (by decide +kernel)
theorem dL_law_270 : decode cL_law 270 = .ok (.iconst 1, 1) := dk_4 ((cL_law_at 270 (by decide)).trans (by decide +kernel))
theorem dL_law_271 : decode cL_law 271 = .ok (.iadd, 1) := dk_96 ((cL_law_at 271 (by decide)).trans (by decide +kernel))
theorem dL_law_272 : decode cL_law 272 = .ok (.iaload, 1) := dk_46 ((cL_law_at 272 (by decide)).trans (by decide +kernel))
theorem dL_law_273 : decode cL_law 273 = .ok (.aload_n 0, 1) := dk_42 ((cL_law_at 273 (by decide)).trans (by decide +kernel))
theorem dL_law_274 : decode cL_law 274 = .ok (.iload 5, 2) := (dk_21 (a := 5) ((cL_law_at 274 (by decide)).trans (by decide +kernel)) ((cL_law_at 275 (by decide)).trans (by decide +kernel))).trans (by decide +kernel)
theorem dL_law_276 : decode cL_law 276 = .ok (.iconst 2, 1) := dk_5 ((cL_law_at 276 (by decide)).trans (by decide +kernel))
theorem dL_law_277 : decode cL_law 277 = .ok (.iadd, 1) := dk_96 ((cL_law_at 277 (by decide)).trans (by decide +kernel))
theorem dL_law_278 : decode cL_law 278 = .ok (.iaload, 1) := dk_46 ((cL_law_at 278 (by decide)).trans (by decide +kernel))
theorem dL_law_279 : decode cL_law 279 = .ok (.i2c, 1) := dk_146 ((cL_law_at 279 (by decide)).trans (by decide +kernel))
theorem dL_law_280 : decode cL_law 280 = .ok (.aload_n 0, 1) := dk_42 ((cL_law_at 280 (by decide)).trans (by decide +kernel))
theorem dL_law_281 : decode cL_law 281 = .ok (.iload 5, 2) := (dk_21 (a := 5) ((cL_law_at 281 (by decide)).trans (by decide +kernel)) ((cL_law_at 282 (by decide)).trans (by decide +kernel))).trans (by decide +kernel)
theorem dL_law_283 : decode cL_law 283 = .ok (.iconst 3, 1) := dk_6 ((cL_law_at 283 (by decide)).trans (by decide +kernel))
theorem dL_law_284 : decode cL_law 284 = .ok (.iadd, 1) := dk_96 ((cL_law_at 284 (by decide)).trans (by decide +kernel))
theorem dL_law_285 : decode cL_law 285 = .ok (.iaload, 1) := dk_46 ((cL_law_at 285 (by decide)).trans (by decide +kernel))
theorem dL_law_286 : decode cL_law 286 = .ok (.aload_n 3, 1) := dk_45 ((cL_law_at 286 (by decide)).trans (by decide +kernel))
theorem dL_law_287 : decode cL_law 287 = .ok (.invokestatic 143, 3) := (dk_184 (a := 0) (b := 143) ((cL_law_at 287 (by decide)).trans (by decide +kernel)) ((cL_law_at 288 (by decide)).trans (by decide +kernel)) ((cL_law_at 289 (by decide)).trans (by decide +kernel))).trans (by decide +kernel)
theorem dL_law_290 : decode cL_law 290 = .ok (.istore 6, 2) := (dk_54 (a := 6) ((cL_law_at 290 (by decide)).trans (by decide +kernel)) ((cL_law_at 291 (by decide)).trans (by decide +kernel))).trans (by decide +kernel)
theorem dL_law_292 : decode cL_law 292 = .ok (.aload_n 2, 1) := dk_44 ((cL_law_at 292 (by decide)).trans (by decide +kernel))
theorem dL_law_293 : decode cL_law 293 = .ok (.aload_n 0, 1) := dk_42 ((cL_law_at 293 (by decide)).trans (by decide +kernel))
theorem dL_law_294 : decode cL_law 294 = .ok (.iload 5, 2) := (dk_21 (a := 5) ((cL_law_at 294 (by decide)).trans (by decide +kernel)) ((cL_law_at 295 (by decide)).trans (by decide +kernel))).trans (by decide +kernel)
theorem dL_law_296 : decode cL_law 296 = .ok (.iconst 1, 1) := dk_4 ((cL_law_at 296 (by decide)).trans (by decide +kernel))
theorem dL_law_297 : decode cL_law 297 = .ok (.iadd, 1) := dk_96 ((cL_law_at 297 (by decide)).trans (by decide +kernel))
theorem dL_law_298 : decode cL_law 298 = .ok (.iaload, 1) := dk_46 ((cL_law_at 298 (by decide)).trans (by decide +kernel))
theorem dL_law_299 : decode cL_law 299 = .ok (.aload_n 0, 1) := dk_42 ((cL_law_at 299 (by decide)).trans (by decide +kernel))
theorem dL_law_300 : decode cL_law 300 = .ok (.iload 5, 2) := (dk_21 (a := 5) ((cL_law_at 300 (by decide)).trans (by decide +kernel)) ((cL_law_at 301 (by decide)).trans (by decide +kernel))).trans (by decide +kernel)
theorem dL_law_302 : decode cL_law 302 = .ok (.iconst 2, 1) := dk_5 ((cL_law_at 302 (by decide)).trans (by decide +kernel))
theorem dL_law_303 : decode cL_law 303 = .ok (.iadd, 1) := dk_96 ((cL_law_at 303 (by decide)).trans (by decide +kernel))
theorem dL_law_304 : decode cL_law 304 = .ok (.iaload, 1) := dk_46 ((cL_law_at 304 (by decide)).trans (by decide +kernel))
theorem dL_law_305 : decode cL_law 305 = .ok (.i2c, 1) := dk_146 ((cL_law_at 305 (by decide)).trans (by decide +kernel))
theorem dL_law_306 : decode cL_law 306 = .ok (.aload_n 0, 1) := dk_42 ((cL_law_at 306 (by decide)).trans (by decide +kernel))
theorem dL_law_307 : decode cL_law 307 = .ok (.iload 5, 2) := (dk_21 (a := 5) ((cL_law_at 307 (by decide)).trans (by decide +kernel)) ((cL_law_at 308 (by decide)).trans (by decide +kernel))).trans (by decide +kernel)
theorem dL_law_309 : decode cL_law 309 = .ok (.iconst 3, 1) := dk_6 ((cL_law_at 309 (by decide)).trans (by decide +kernel))
theorem dL_law_310 : decode cL_law 310 = .ok (.iadd, 1) := dk_96 ((cL_law_at 310 (by decide)).trans (by decide +kernel))
theorem dL_law_311 : decode cL_law 311 = .ok (.iaload, 1) := dk_46 ((cL_law_at 311 (by decide)).trans (by decide +kernel))
theorem dL_law_312 : decode cL_law 312 = .ok (.invokevirtual 146, 3) := (dk_182 (a := 0) (b := 146) ((cL_law_at 312 (by decide)).trans (by decide +kernel)) ((cL_law_at 313 (by decide)).trans (by decide +kernel)) ((cL_law_at 314 (by decide)).trans (by decide +kernel))).trans (by decide +kernel)
theorem dL_law_315 : decode cL_law 315 = .ok (.istore 7, 2) := (dk_54 (a := 7) ((cL_law_at 315 (by decide)).trans (by decide +kernel)) ((cL_law_at 316 (by decide)).trans (by decide +kernel))).trans (by decide +kernel)
theorem dL_law_317 : decode cL_law 317 = .ok (.goto 1064, 3) := (dk_167 (a := 4) (b := 40) ((cL_law_at 317 (by decide)).trans (by decide +kernel)) ((cL_law_at 318 (by decide)).trans (by decide +kernel)) ((cL_law_at 319 (by decide)).trans (by decide +kernel))).trans (by decide +kernel)
theorem dL_law_320 : decode cL_law 320 = .ok (.aload_n 1, 1) := dk_43 ((cL_law_at 320 (by decide)).trans (by decide +kernel))
theorem dL_law_321 : decode cL_law 321 = .ok (.aload_n 0, 1) := dk_42 ((cL_law_at 321 (by decide)).trans (by decide +kernel))
theorem dL_law_322 : decode cL_law 322 = .ok (.iload 5, 2) := (dk_21 (a := 5) ((cL_law_at 322 (by decide)).trans (by decide +kernel)) ((cL_law_at 323 (by decide)).trans (by decide +kernel))).trans (by decide +kernel)
theorem dL_law_324 : decode cL_law 324 = .ok (.iconst 1, 1) := dk_4 ((cL_law_at 324 (by decide)).trans (by decide +kernel))
theorem dL_law_325 : decode cL_law 325 = .ok (.iadd, 1) := dk_96 ((cL_law_at 325 (by decide)).trans (by decide +kernel))
theorem dL_law_326 : decode cL_law 326 = .ok (.iaload, 1) := dk_46 ((cL_law_at 326 (by decide)).trans (by decide +kernel))
theorem dL_law_327 : decode cL_law 327 = .ok (.aload_n 3, 1) := dk_45 ((cL_law_at 327 (by decide)).trans (by decide +kernel))
theorem dL_law_328 : decode cL_law 328 = .ok (.invokestatic 147, 3) := (dk_184 (a := 0) (b := 147) ((cL_law_at 328 (by decide)).trans (by decide +kernel)) ((cL_law_at 329 (by decide)).trans (by decide +kernel)) ((cL_law_at 330 (by decide)).trans (by decide +kernel))).trans (by decide +kernel)
theorem dL_law_331 : decode cL_law 331 = .ok (.istore 6, 2) := (dk_54 (a := 6) ((cL_law_at 331 (by decide)).trans (by decide +kernel)) ((cL_law_at 332 (by decide)).trans (by decide +kernel))).trans (by decide +kernel)
theorem dL_law_333 : decode cL_law 333 = .ok (.aload_n 2, 1) := dk_44 ((cL_law_at 333 (by decide)).trans (by decide +kernel))
theorem dL_law_334 : decode cL_law 334 = .ok (.aload_n 0, 1) := dk_42 ((cL_law_at 334 (by decide)).trans (by decide +kernel))
theorem dL_law_335 : decode cL_law 335 = .ok (.iload 5, 2) := (dk_21 (a := 5) ((cL_law_at 335 (by decide)).trans (by decide +kernel)) ((cL_law_at 336 (by decide)).trans (by decide +kernel))).trans (by decide +kernel)
theorem dL_law_337 : decode cL_law 337 = .ok (.iconst 1, 1) := dk_4 ((cL_law_at 337 (by decide)).trans (by decide +kernel))
theorem dL_law_338 : decode cL_law 338 = .ok (.iadd, 1) := dk_96 ((cL_law_at 338 (by decide)).trans (by decide +kernel))
theorem dL_law_339 : decode cL_law 339 = .ok (.iaload, 1) := dk_46 ((cL_law_at 339 (by decide)).trans (by decide +kernel))
theorem dL_law_340 : decode cL_law 340 = .ok (.invokevirtual 150, 3) := (dk_182 (a := 0) (b := 150) ((cL_law_at 340 (by decide)).trans (by decide +kernel)) ((cL_law_at 341 (by decide)).trans (by decide +kernel)) ((cL_law_at 342 (by decide)).trans (by decide +kernel))).trans (by decide +kernel)
theorem dL_law_343 : decode cL_law 343 = .ok (.istore 7, 2) := (dk_54 (a := 7) ((cL_law_at 343 (by decide)).trans (by decide +kernel)) ((cL_law_at 344 (by decide)).trans (by decide +kernel))).trans (by decide +kernel)
theorem dL_law_345 : decode cL_law 345 = .ok (.goto 1036, 3) := (dk_167 (a := 4) (b := 12) ((cL_law_at 345 (by decide)).trans (by decide +kernel)) ((cL_law_at 346 (by decide)).trans (by decide +kernel)) ((cL_law_at 347 (by decide)).trans (by decide +kernel))).trans (by decide +kernel)
theorem dL_law_348 : decode cL_law 348 = .ok (.aload_n 1, 1) := dk_43 ((cL_law_at 348 (by decide)).trans (by decide +kernel))
theorem dL_law_349 : decode cL_law 349 = .ok (.aload_n 0, 1) := dk_42 ((cL_law_at 349 (by decide)).trans (by decide +kernel))
theorem dL_law_350 : decode cL_law 350 = .ok (.iload 5, 2) := (dk_21 (a := 5) ((cL_law_at 350 (by decide)).trans (by decide +kernel)) ((cL_law_at 351 (by decide)).trans (by decide +kernel))).trans (by decide +kernel)
theorem dL_law_352 : decode cL_law 352 = .ok (.iconst 1, 1) := dk_4 ((cL_law_at 352 (by decide)).trans (by decide +kernel))
theorem dL_law_353 : decode cL_law 353 = .ok (.iadd, 1) := dk_96 ((cL_law_at 353 (by decide)).trans (by decide +kernel))
theorem dL_law_354 : decode cL_law 354 = .ok (.iaload, 1) := dk_46 ((cL_law_at 354 (by decide)).trans (by decide +kernel))
theorem dL_law_355 : decode cL_law 355 = .ok (.aload_n 3, 1) := dk_45 ((cL_law_at 355 (by decide)).trans (by decide +kernel))
theorem dL_law_356 : decode cL_law 356 = .ok (.invokestatic 151, 3) := (dk_184 (a := 0) (b := 151) ((cL_law_at 356 (by decide)).trans (by decide +kernel)) ((cL_law_at 357 (by decide)).trans (by decide +kernel)) ((cL_law_at 358 (by decide)).trans (by decide +kernel))).trans (by decide +kernel)
theorem dL_law_359 : decode cL_law 359 = .ok (.istore 6, 2) := (dk_54 (a := 6) ((cL_law_at 359 (by decide)).trans (by decide +kernel)) ((cL_law_at 360 (by decide)).trans (by decide +kernel))).trans (by decide +kernel)
theorem dL_law_361 : decode cL_law 361 = .ok (.aload_n 2, 1) := dk_44 ((cL_law_at 361 (by decide)).trans (by decide +kernel))
theorem dL_law_362 : decode cL_law 362 = .ok (.aload_n 0, 1) := dk_42 ((cL_law_at 362 (by decide)).trans (by decide +kernel))
theorem dL_law_363 : decode cL_law 363 = .ok (.iload 5, 2) := (dk_21 (a := 5) ((cL_law_at 363 (by decide)).trans (by decide +kernel)) ((cL_law_at 364 (by decide)).trans (by decide +kernel))).trans (by decide +kernel)
theorem dL_law_365 : decode cL_law 365 = .ok (.iconst 1, 1) := dk_4 ((cL_law_at 365 (by decide)).trans (by decide +kernel))
theorem dL_law_366 : decode cL_law 366 = .ok (.iadd, 1) := dk_96 ((cL_law_at 366 (by decide)).trans (by decide +kernel))
theorem dL_law_367 : decode cL_law 367 = .ok (.iaload, 1) := dk_46 ((cL_law_at 367 (by decide)).trans (by decide +kernel))
theorem dL_law_368 : decode cL_law 368 = .ok (.invokevirtual 153, 3) := (dk_182 (a := 0) (b := 153) ((cL_law_at 368 (by decide)).trans (by decide +kernel)) ((cL_law_at 369 (by decide)).trans (by decide +kernel)) ((cL_law_at 370 (by decide)).trans (by decide +kernel))).trans (by decide +kernel)
theorem dL_law_371 : decode cL_law 371 = .ok (.istore 7, 2) := (dk_54 (a := 7) ((cL_law_at 371 (by decide)).trans (by decide +kernel)) ((cL_law_at 372 (by decide)).trans (by decide +kernel))).trans (by decide +kernel)
theorem dL_law_373 : decode cL_law 373 = .ok (.goto 1008, 3) := (dk_167 (a := 3) (b := 240) ((cL_law_at 373 (by decide)).trans (by decide +kernel)) ((cL_law_at 374 (by decide)).trans (by decide +kernel)) ((cL_law_at 375 (by decide)).trans (by decide +kernel))).trans (by decide +kernel)
theorem dL_law_376 : decode cL_law 376 = .ok (.aload_n 1, 1) := dk_43 ((cL_law_at 376 (by decide)).trans (by decide +kernel))
theorem dL_law_377 : decode cL_law 377 = .ok (.aload_n 0, 1) := dk_42 ((cL_law_at 377 (by decide)).trans (by decide +kernel))
theorem dL_law_378 : decode cL_law 378 = .ok (.iload 5, 2) := (dk_21 (a := 5) ((cL_law_at 378 (by decide)).trans (by decide +kernel)) ((cL_law_at 379 (by decide)).trans (by decide +kernel))).trans (by decide +kernel)
theorem dL_law_380 : decode cL_law 380 = .ok (.iconst 1, 1) := dk_4 ((cL_law_at 380 (by decide)).trans (by decide +kernel))
theorem dL_law_381 : decode cL_law 381 = .ok (.iadd, 1) := dk_96 ((cL_law_at 381 (by decide)).trans (by decide +kernel))
theorem dL_law_382 : decode cL_law 382 = .ok (.iaload, 1) := dk_46 ((cL_law_at 382 (by decide)).trans (by decide +kernel))
theorem dL_law_383 : decode cL_law 383 = .ok (.aload_n 0, 1) := dk_42 ((cL_law_at 383 (by decide)).trans (by decide +kernel))
theorem dL_law_384 : decode cL_law 384 = .ok (.iload 5, 2) := (dk_21 (a := 5) ((cL_law_at 384 (by decide)).trans (by decide +kernel)) ((cL_law_at 385 (by decide)).trans (by decide +kernel))).trans (by decide +kernel)
theorem dL_law_386 : decode cL_law 386 = .ok (.iconst 2, 1) := dk_5 ((cL_law_at 386 (by decide)).trans (by decide +kernel))
theorem dL_law_387 : decode cL_law 387 = .ok (.iadd, 1) := dk_96 ((cL_law_at 387 (by decide)).trans (by decide +kernel))
theorem dL_law_388 : decode cL_law 388 = .ok (.iaload, 1) := dk_46 ((cL_law_at 388 (by decide)).trans (by decide +kernel))
theorem dL_law_389 : decode cL_law 389 = .ok (.aload_n 3, 1) := dk_45 ((cL_law_at 389 (by decide)).trans (by decide +kernel))
theorem dL_law_390 : decode cL_law 390 = .ok (.invokestatic 154, 3) := (dk_184 (a := 0) (b := 154) ((cL_law_at 390 (by decide)).trans (by decide +kernel)) ((cL_law_at 391 (by decide)).trans (by decide +kernel)) ((cL_law_at 392 (by decide)).trans (by decide +kernel))).trans (by decide +kernel)
theorem dL_law_393 : decode cL_law 393 = .ok (.istore 6, 2) := (dk_54 (a := 6) ((cL_law_at 393 (by decide)).trans (by decide +kernel)) ((cL_law_at 394 (by decide)).trans (by decide +kernel))).trans (by decide +kernel)
theorem dL_law_395 : decode cL_law 395 = .ok (.aload_n 2, 1) := dk_44 ((cL_law_at 395 (by decide)).trans (by decide +kernel))
theorem dL_law_396 : decode cL_law 396 = .ok (.aload_n 0, 1) := dk_42 ((cL_law_at 396 (by decide)).trans (by decide +kernel))
theorem dL_law_397 : decode cL_law 397 = .ok (.iload 5, 2) := (dk_21 (a := 5) ((cL_law_at 397 (by decide)).trans (by decide +kernel)) ((cL_law_at 398 (by decide)).trans (by decide +kernel))).trans (by decide +kernel)
theorem dL_law_399 : decode cL_law 399 = .ok (.iconst 1, 1) := dk_4 ((cL_law_at 399 (by decide)).trans (by decide +kernel))
theorem dL_law_400 : decode cL_law 400 = .ok (.iadd, 1) := dk_96 ((cL_law_at 400 (by decide)).trans (by decide +kernel))
theorem dL_law_401 : decode cL_law 401 = .ok (.iaload, 1) := dk_46 ((cL_law_at 401 (by decide)).trans (by decide +kernel))
theorem dL_law_402 : decode cL_law 402 = .ok (.aload_n 0, 1) := dk_42 ((cL_law_at 402 (by decide)).trans (by decide +kernel))
theorem dL_law_403 : decode cL_law 403 = .ok (.iload 5, 2) := (dk_21 (a := 5) ((cL_law_at 403 (by decide)).trans (by decide +kernel)) ((cL_law_at 404 (by decide)).trans (by decide +kernel))).trans (by decide +kernel)
theorem dL_law_405 : decode cL_law 405 = .ok (.iconst 2, 1) := dk_5 ((cL_law_at 405 (by decide)).trans (by decide +kernel))
theorem dL_law_406 : decode cL_law 406 = .ok (.iadd, 1) := dk_96 ((cL_law_at 406 (by decide)).trans (by decide +kernel))
theorem dL_law_407 : decode cL_law 407 = .ok (.iaload, 1) := dk_46 ((cL_law_at 407 (by decide)).trans (by decide +kernel))
theorem dL_law_408 : decode cL_law 408 = .ok (.invokevirtual 157, 3) := (dk_182 (a := 0) (b := 157) ((cL_law_at 408 (by decide)).trans (by decide +kernel)) ((cL_law_at 409 (by decide)).trans (by decide +kernel)) ((cL_law_at 410 (by decide)).trans (by decide +kernel))).trans (by decide +kernel)
theorem dL_law_411 : decode cL_law 411 = .ok (.istore 7, 2) := (dk_54 (a := 7) ((cL_law_at 411 (by decide)).trans (by decide +kernel)) ((cL_law_at 412 (by decide)).trans (by decide +kernel))).trans (by decide +kernel)
theorem dL_law_413 : decode cL_law 413 = .ok (.goto 968, 3) := (dk_167 (a := 3) (b := 200) ((cL_law_at 413 (by decide)).trans (by decide +kernel)) ((cL_law_at 414 (by decide)).trans (by decide +kernel)) ((cL_law_at 415 (by decide)).trans (by decide +kernel))).trans (by decide +kernel)
theorem dL_law_416 : decode cL_law 416 = .ok (.aload_n 1, 1) := dk_43 ((cL_law_at 416 (by decide)).trans (by decide +kernel))
theorem dL_law_417 : decode cL_law 417 = .ok (.aload_n 0, 1) := dk_42 ((cL_law_at 417 (by decide)).trans (by decide +kernel))
theorem dL_law_418 : decode cL_law 418 = .ok (.iload 5, 2) := (dk_21 (a := 5) ((cL_law_at 418 (by decide)).trans (by decide +kernel)) ((cL_law_at 419 (by decide)).trans (by decide +kernel))).trans (by decide +kernel)
theorem dL_law_420 : decode cL_law 420 = .ok (.iconst 1, 1) := dk_4 ((cL_law_at 420 (by decide)).trans (by decide +kernel))
theorem dL_law_421 : decode cL_law 421 = .ok (.iadd, 1) := dk_96 ((cL_law_at 421 (by decide)).trans (by decide +kernel))
theorem dL_law_422 : decode cL_law 422 = .ok (.iaload, 1) := dk_46 ((cL_law_at 422 (by decide)).trans (by decide +kernel))
theorem dL_law_423 : decode cL_law 423 = .ok (.aload_n 0, 1) := dk_42 ((cL_law_at 423 (by decide)).trans (by decide +kernel))
theorem dL_law_424 : decode cL_law 424 = .ok (.iload 5, 2) := (dk_21 (a := 5) ((cL_law_at 424 (by decide)).trans (by decide +kernel)) ((cL_law_at 425 (by decide)).trans (by decide +kernel))).trans (by decide +kernel)
theorem dL_law_426 : decode cL_law 426 = .ok (.iconst 2, 1) := dk_5 ((cL_law_at 426 (by decide)).trans (by decide +kernel))
theorem dL_law_427 : decode cL_law 427 = .ok (.iadd, 1) := dk_96 ((cL_law_at 427 (by decide)).trans (by decide +kernel))
theorem dL_law_428 : decode cL_law 428 = .ok (.iaload, 1) := dk_46 ((cL_law_at 428 (by decide)).trans (by decide +kernel))
theorem dL_law_429 : decode cL_law 429 = .ok (.aload_n 3, 1) := dk_45 ((cL_law_at 429 (by decide)).trans (by decide +kernel))
theorem dL_law_430 : decode cL_law 430 = .ok (.invokestatic 158, 3) := (dk_184 (a := 0) (b := 158) ((cL_law_at 430 (by decide)).trans (by decide +kernel)) ((cL_law_at 431 (by decide)).trans (by decide +kernel)) ((cL_law_at 432 (by decide)).trans (by decide +kernel))).trans (by decide +kernel)
theorem dL_law_433 : decode cL_law 433 = .ok (.istore 6, 2) := (dk_54 (a := 6) ((cL_law_at 433 (by decide)).trans (by decide +kernel)) ((cL_law_at 434 (by decide)).trans (by decide +kernel))).trans (by decide +kernel)
theorem dL_law_435 : decode cL_law 435 = .ok (.aload_n 2, 1) := dk_44 ((cL_law_at 435 (by decide)).trans (by decide +kernel))
theorem dL_law_436 : decode cL_law 436 = .ok (.aload_n 0, 1) := dk_42 ((cL_law_at 436 (by decide)).trans (by decide +kernel))
theorem dL_law_437 : decode cL_law 437 = .ok (.iload 5, 2) := (dk_21 (a := 5) ((cL_law_at 437 (by decide)).trans (by decide +kernel)) ((cL_law_at 438 (by decide)).trans (by decide +kernel))).trans (by decide +kernel)
theorem dL_law_439 : decode cL_law 439 = .ok (.iconst 1, 1) := dk_4 ((cL_law_at 439 (by decide)).trans (by decide +kernel))
theorem dL_law_440 : decode cL_law 440 = .ok (.iadd, 1) := dk_96 ((cL_law_at 440 (by decide)).trans (by decide +kernel))
theorem dL_law_441 : decode cL_law 441 = .ok (.iaload, 1) := dk_46 ((cL_law_at 441 (by decide)).trans (by decide +kernel))
theorem dL_law_442 : decode cL_law 442 = .ok (.aload_n 0, 1) := dk_42 ((cL_law_at 442 (by decide)).trans (by decide +kernel))
theorem dL_law_443 : decode cL_law 443 = .ok (.iload 5, 2) := (dk_21 (a := 5) ((cL_law_at 443 (by decide)).trans (by decide +kernel)) ((cL_law_at 444 (by decide)).trans (by decide +kernel))).trans (by decide +kernel)
theorem dL_law_445 : decode cL_law 445 = .ok (.iconst 2, 1) := dk_5 ((cL_law_at 445 (by decide)).trans (by decide +kernel))
theorem dL_law_446 : decode cL_law 446 = .ok (.iadd, 1) := dk_96 ((cL_law_at 446 (by decide)).trans (by decide +kernel))
theorem dL_law_447 : decode cL_law 447 = .ok (.iaload, 1) := dk_46 ((cL_law_at 447 (by decide)).trans (by decide +kernel))
theorem dL_law_448 : decode cL_law 448 = .ok (.invokevirtual 160, 3) := (dk_182 (a := 0) (b := 160) ((cL_law_at 448 (by decide)).trans (by decide +kernel)) ((cL_law_at 449 (by decide)).trans (by decide +kernel)) ((cL_law_at 450 (by decide)).trans (by decide +kernel))).trans (by decide +kernel)
theorem dL_law_451 : decode cL_law 451 = .ok (.istore 7, 2) := (dk_54 (a := 7) ((cL_law_at 451 (by decide)).trans (by decide +kernel)) ((cL_law_at 452 (by decide)).trans (by decide +kernel))).trans (by decide +kernel)
theorem dL_law_453 : decode cL_law 453 = .ok (.goto 928, 3) := (dk_167 (a := 3) (b := 160) ((cL_law_at 453 (by decide)).trans (by decide +kernel)) ((cL_law_at 454 (by decide)).trans (by decide +kernel)) ((cL_law_at 455 (by decide)).trans (by decide +kernel))).trans (by decide +kernel)
theorem dL_law_456 : decode cL_law 456 = .ok (.aload_n 1, 1) := dk_43 ((cL_law_at 456 (by decide)).trans (by decide +kernel))
theorem dL_law_457 : decode cL_law 457 = .ok (.aload_n 0, 1) := dk_42 ((cL_law_at 457 (by decide)).trans (by decide +kernel))
theorem dL_law_458 : decode cL_law 458 = .ok (.iload 5, 2) := (dk_21 (a := 5) ((cL_law_at 458 (by decide)).trans (by decide +kernel)) ((cL_law_at 459 (by decide)).trans (by decide +kernel))).trans (by decide +kernel)
theorem dL_law_460 : decode cL_law 460 = .ok (.iconst 1, 1) := dk_4 ((cL_law_at 460 (by decide)).trans (by decide +kernel))
theorem dL_law_461 : decode cL_law 461 = .ok (.iadd, 1) := dk_96 ((cL_law_at 461 (by decide)).trans (by decide +kernel))
theorem dL_law_462 : decode cL_law 462 = .ok (.iaload, 1) := dk_46 ((cL_law_at 462 (by decide)).trans (by decide +kernel))
theorem dL_law_463 : decode cL_law 463 = .ok (.aload_n 0, 1) := dk_42 ((cL_law_at 463 (by decide)).trans (by decide +kernel))
theorem dL_law_464 : decode cL_law 464 = .ok (.iload 5, 2) := (dk_21 (a := 5) ((cL_law_at 464 (by decide)).trans (by decide +kernel)) ((cL_law_at 465 (by decide)).trans (by decide +kernel))).trans (by decide +kernel)
theorem dL_law_466 : decode cL_law 466 = .ok (.iconst 2, 1) := dk_5 ((cL_law_at 466 (by decide)).trans (by decide +kernel))
theorem dL_law_467 : decode cL_law 467 = .ok (.iadd, 1) := dk_96 ((cL_law_at 467 (by decide)).trans (by decide +kernel))
theorem dL_law_468 : decode cL_law 468 = .ok (.iaload, 1) := dk_46 ((cL_law_at 468 (by decide)).trans (by decide +kernel))
theorem dL_law_469 : decode cL_law 469 = .ok (.aload_n 3, 1) := dk_45 ((cL_law_at 469 (by decide)).trans (by decide +kernel))
theorem dL_law_470 : decode cL_law 470 = .ok (.invokestatic 161, 3) := (dk_184 (a := 0) (b := 161) ((cL_law_at 470 (by decide)).trans (by decide +kernel)) ((cL_law_at 471 (by decide)).trans (by decide +kernel)) ((cL_law_at 472 (by decide)).trans (by decide +kernel))).trans (by decide +kernel)
theorem dL_law_473 : decode cL_law 473 = .ok (.istore 6, 2) := (dk_54 (a := 6) ((cL_law_at 473 (by decide)).trans (by decide +kernel)) ((cL_law_at 474 (by decide)).trans (by decide +kernel))).trans (by decide +kernel)
theorem dL_law_475 : decode cL_law 475 = .ok (.aload_n 2, 1) := dk_44 ((cL_law_at 475 (by decide)).trans (by decide +kernel))
theorem dL_law_476 : decode cL_law 476 = .ok (.aload_n 0, 1) := dk_42 ((cL_law_at 476 (by decide)).trans (by decide +kernel))
theorem dL_law_477 : decode cL_law 477 = .ok (.iload 5, 2) := (dk_21 (a := 5) ((cL_law_at 477 (by decide)).trans (by decide +kernel)) ((cL_law_at 478 (by decide)).trans (by decide +kernel))).trans (by decide +kernel)
theorem dL_law_479 : decode cL_law 479 = .ok (.iconst 1, 1) := dk_4 ((cL_law_at 479 (by decide)).trans (by decide +kernel))
theorem dL_law_480 : decode cL_law 480 = .ok (.iadd, 1) := dk_96 ((cL_law_at 480 (by decide)).trans (by decide +kernel))
theorem dL_law_481 : decode cL_law 481 = .ok (.iaload, 1) := dk_46 ((cL_law_at 481 (by decide)).trans (by decide +kernel))
theorem dL_law_482 : decode cL_law 482 = .ok (.aload_n 0, 1) := dk_42 ((cL_law_at 482 (by decide)).trans (by decide +kernel))
theorem dL_law_483 : decode cL_law 483 = .ok (.iload 5, 2) := (dk_21 (a := 5) ((cL_law_at 483 (by decide)).trans (by decide +kernel)) ((cL_law_at 484 (by decide)).trans (by decide +kernel))).trans (by decide +kernel)
theorem dL_law_485 : decode cL_law 485 = .ok (.iconst 2, 1) := dk_5 ((cL_law_at 485 (by decide)).trans (by decide +kernel))
theorem dL_law_486 : decode cL_law 486 = .ok (.iadd, 1) := dk_96 ((cL_law_at 486 (by decide)).trans (by decide +kernel))
theorem dL_law_487 : decode cL_law 487 = .ok (.iaload, 1) := dk_46 ((cL_law_at 487 (by decide)).trans (by decide +kernel))
theorem dL_law_488 : decode cL_law 488 = .ok (.invokevirtual 163, 3) := (dk_182 (a := 0) (b := 163) ((cL_law_at 488 (by decide)).trans (by decide +kernel)) ((cL_law_at 489 (by decide)).trans (by decide +kernel)) ((cL_law_at 490 (by decide)).trans (by decide +kernel))).trans (by decide +kernel)
theorem dL_law_491 : decode cL_law 491 = .ok (.istore 7, 2) := (dk_54 (a := 7) ((cL_law_at 491 (by decide)).trans (by decide +kernel)) ((cL_law_at 492 (by decide)).trans (by decide +kernel))).trans (by decide +kernel)
theorem dL_law_493 : decode cL_law 493 = .ok (.goto 888, 3) := (dk_167 (a := 3) (b := 120) ((cL_law_at 493 (by decide)).trans (by decide +kernel)) ((cL_law_at 494 (by decide)).trans (by decide +kernel)) ((cL_law_at 495 (by decide)).trans (by decide +kernel))).trans (by decide +kernel)
theorem dL_law_496 : decode cL_law 496 = .ok (.aload_n 1, 1) := dk_43 ((cL_law_at 496 (by decide)).trans (by decide +kernel))
theorem dL_law_497 : decode cL_law 497 = .ok (.aload_n 0, 1) := dk_42 ((cL_law_at 497 (by decide)).trans (by decide +kernel))
theorem dL_law_498 : decode cL_law 498 = .ok (.iload 5, 2) := (dk_21 (a := 5) ((cL_law_at 498 (by decide)).trans (by decide +kernel)) ((cL_law_at 499 (by decide)).trans (by decide +kernel))).trans (by decide +kernel)
theorem dL_law_500 : decode cL_law 500 = .ok (.iconst 1, 1) := dk_4 ((cL_law_at 500 (by decide)).trans (by decide +kernel))
theorem dL_law_501 : decode cL_law 501 = .ok (.iadd, 1) := dk_96 ((cL_law_at 501 (by decide)).trans (by decide +kernel))
theorem dL_law_502 : decode cL_law 502 = .ok (.iaload, 1) := dk_46 ((cL_law_at 502 (by decide)).trans (by decide +kernel))
theorem dL_law_503 : decode cL_law 503 = .ok (.aload_n 3, 1) := dk_45 ((cL_law_at 503 (by decide)).trans (by decide +kernel))
theorem dL_law_504 : decode cL_law 504 = .ok (.invokestatic 164, 3) := (dk_184 (a := 0) (b := 164) ((cL_law_at 504 (by decide)).trans (by decide +kernel)) ((cL_law_at 505 (by decide)).trans (by decide +kernel)) ((cL_law_at 506 (by decide)).trans (by decide +kernel))).trans (by decide +kernel)
theorem dL_law_507 : decode cL_law 507 = .ok (.istore 6, 2) := (dk_54 (a := 6) ((cL_law_at 507 (by decide)).trans (by decide +kernel)) ((cL_law_at 508 (by decide)).trans (by decide +kernel))).trans (by decide +kernel)
theorem dL_law_509 : decode cL_law 509 = .ok (.aload_n 2, 1) := dk_44 ((cL_law_at 509 (by decide)).trans (by decide +kernel))
theorem dL_law_510 : decode cL_law 510 = .ok (.aload_n 0, 1) := dk_42 ((cL_law_at 510 (by decide)).trans (by decide +kernel))
theorem dL_law_511 : decode cL_law 511 = .ok (.iload 5, 2) := (dk_21 (a := 5) ((cL_law_at 511 (by decide)).trans (by decide +kernel)) ((cL_law_at 512 (by decide)).trans (by decide +kernel))).trans (by decide +kernel)
theorem dL_law_513 : decode cL_law 513 = .ok (.iconst 1, 1) := dk_4 ((cL_law_at 513 (by decide)).trans (by decide +kernel))
theorem dL_law_514 : decode cL_law 514 = .ok (.iadd, 1) := dk_96 ((cL_law_at 514 (by decide)).trans (by decide +kernel))
theorem dL_law_515 : decode cL_law 515 = .ok (.iaload, 1) := dk_46 ((cL_law_at 515 (by decide)).trans (by decide +kernel))
theorem dL_law_516 : decode cL_law 516 = .ok (.invokevirtual 166, 3) := (dk_182 (a := 0) (b := 166) ((cL_law_at 516 (by decide)).trans (by decide +kernel)) ((cL_law_at 517 (by decide)).trans (by decide +kernel)) ((cL_law_at 518 (by decide)).trans (by decide +kernel))).trans (by decide +kernel)
theorem dL_law_519 : decode cL_law 519 = .ok (.istore 7, 2) := (dk_54 (a := 7) ((cL_law_at 519 (by decide)).trans (by decide +kernel)) ((cL_law_at 520 (by decide)).trans (by decide +kernel))).trans (by decide +kernel)
theorem dL_law_521 : decode cL_law 521 = .ok (.goto 860, 3) := (dk_167 (a := 3) (b := 92) ((cL_law_at 521 (by decide)).trans (by decide +kernel)) ((cL_law_at 522 (by decide)).trans (by decide +kernel)) ((cL_law_at 523 (by decide)).trans (by decide +kernel))).trans (by decide +kernel)
theorem dL_law_524 : decode cL_law 524 = .ok (.aload_n 1, 1) := dk_43 ((cL_law_at 524 (by decide)).trans (by decide +kernel))
theorem dL_law_525 : decode cL_law 525 = .ok (.aload_n 0, 1) := dk_42 ((cL_law_at 525 (by decide)).trans (by decide +kernel))
theorem dL_law_526 : decode cL_law 526 = .ok (.iload 5, 2) := (dk_21 (a := 5) ((cL_law_at 526 (by decide)).trans (by decide +kernel)) ((cL_law_at 527 (by decide)).trans (by decide +kernel))).trans (by decide +kernel)
theorem dL_law_528 : decode cL_law 528 = .ok (.iconst 1, 1) := dk_4 ((cL_law_at 528 (by decide)).trans (by decide +kernel))
theorem dL_law_529 : decode cL_law 529 = .ok (.iadd, 1) := dk_96 ((cL_law_at 529 (by decide)).trans (by decide +kernel))
theorem dL_law_530 : decode cL_law 530 = .ok (.iaload, 1) := dk_46 ((cL_law_at 530 (by decide)).trans (by decide +kernel))
theorem dL_law_531 : decode cL_law 531 = .ok (.aload_n 0, 1) := dk_42 ((cL_law_at 531 (by decide)).trans (by decide +kernel))
theorem dL_law_532 : decode cL_law 532 = .ok (.iload 5, 2) := (dk_21 (a := 5) ((cL_law_at 532 (by decide)).trans (by decide +kernel)) ((cL_law_at 533 (by decide)).trans (by decide +kernel))).trans (by decide +kernel)
theorem dL_law_534 : decode cL_law 534 = .ok (.iconst 2, 1) := dk_5 ((cL_law_at 534 (by decide)).trans (by decide +kernel))
theorem dL_law_535 : decode cL_law 535 = .ok (.iadd, 1) := dk_96 ((cL_law_at 535 (by decide)).trans (by decide +kernel))
theorem dL_law_536 : decode cL_law 536 = .ok (.iaload, 1) := dk_46 ((cL_law_at 536 (by decide)).trans (by decide +kernel))
theorem dL_law_537 : decode cL_law 537 = .ok (.aload_n 3, 1) := dk_45 ((cL_law_at 537 (by decide)).trans (by decide +kernel))
theorem dL_law_538 : decode cL_law 538 = .ok (.invokestatic 167, 3) := (dk_184 (a := 0) (b := 167) ((cL_law_at 538 (by decide)).trans (by decide +kernel)) ((cL_law_at 539 (by decide)).trans (by decide +kernel)) ((cL_law_at 540 (by decide)).trans (by decide +kernel))).trans (by decide +kernel)
theorem dL_law_541 : decode cL_law 541 = .ok (.istore 6, 2) := (dk_54 (a := 6) ((cL_law_at 541 (by decide)).trans (by decide +kernel)) ((cL_law_at 542 (by decide)).trans (by decide +kernel))).trans (by decide +kernel)
theorem dL_law_543 : decode cL_law 543 = .ok (.aload_n 2, 1) := dk_44 ((cL_law_at 543 (by decide)).trans (by decide +kernel))
theorem dL_law_544 : decode cL_law 544 = .ok (.aload_n 0, 1) := dk_42 ((cL_law_at 544 (by decide)).trans (by decide +kernel))
theorem dL_law_545 : decode cL_law 545 = .ok (.iload 5, 2) := (dk_21 (a := 5) ((cL_law_at 545 (by decide)).trans (by decide +kernel)) ((cL_law_at 546 (by decide)).trans (by decide +kernel))).trans (by decide +kernel)
theorem dL_law_547 : decode cL_law 547 = .ok (.iconst 1, 1) := dk_4 ((cL_law_at 547 (by decide)).trans (by decide +kernel))
theorem dL_law_548 : decode cL_law 548 = .ok (.iadd, 1) := dk_96 ((cL_law_at 548 (by decide)).trans (by decide +kernel))
theorem dL_law_549 : decode cL_law 549 = .ok (.iaload, 1) := dk_46 ((cL_law_at 549 (by decide)).trans (by decide +kernel))
theorem dL_law_550 : decode cL_law 550 = .ok (.aload_n 0, 1) := dk_42 ((cL_law_at 550 (by decide)).trans (by decide +kernel))
theorem dL_law_551 : decode cL_law 551 = .ok (.iload 5, 2) := (dk_21 (a := 5) ((cL_law_at 551 (by decide)).trans (by decide +kernel)) ((cL_law_at 552 (by decide)).trans (by decide +kernel))).trans (by decide +kernel)
theorem dL_law_553 : decode cL_law 553 = .ok (.iconst 2, 1) := dk_5 ((cL_law_at 553 (by decide)).trans (by decide +kernel))
theorem dL_law_554 : decode cL_law 554 = .ok (.iadd, 1) := dk_96 ((cL_law_at 554 (by decide)).trans (by decide +kernel))
theorem dL_law_555 : decode cL_law 555 = .ok (.iaload, 1) := dk_46 ((cL_law_at 555 (by decide)).trans (by decide +kernel))
theorem dL_law_556 : decode cL_law 556 = .ok (.invokevirtual 169, 3) := (dk_182 (a := 0) (b := 169) ((cL_law_at 556 (by decide)).trans (by decide +kernel)) ((cL_law_at 557 (by decide)).trans (by decide +kernel)) ((cL_law_at 558 (by decide)).trans (by decide +kernel))).trans (by decide +kernel)
theorem dL_law_559 : decode cL_law 559 = .ok (.istore 7, 2) := (dk_54 (a := 7) ((cL_law_at 559 (by decide)).trans (by decide +kernel)) ((cL_law_at 560 (by decide)).trans (by decide +kernel))).trans (by decide +kernel)
theorem dL_law_561 : decode cL_law 561 = .ok (.goto 820, 3) := (dk_167 (a := 3) (b := 52) ((cL_law_at 561 (by decide)).trans (by decide +kernel)) ((cL_law_at 562 (by decide)).trans (by decide +kernel)) ((cL_law_at 563 (by decide)).trans (by decide +kernel))).trans (by decide +kernel)
theorem dL_law_564 : decode cL_law 564 = .ok (.aload_n 1, 1) := dk_43 ((cL_law_at 564 (by decide)).trans (by decide +kernel))
theorem dL_law_565 : decode cL_law 565 = .ok (.aload_n 0, 1) := dk_42 ((cL_law_at 565 (by decide)).trans (by decide +kernel))
theorem dL_law_566 : decode cL_law 566 = .ok (.iload 5, 2) := (dk_21 (a := 5) ((cL_law_at 566 (by decide)).trans (by decide +kernel)) ((cL_law_at 567 (by decide)).trans (by decide +kernel))).trans (by decide +kernel)
theorem dL_law_568 : decode cL_law 568 = .ok (.iconst 1, 1) := dk_4 ((cL_law_at 568 (by decide)).trans (by decide +kernel))
theorem dL_law_569 : decode cL_law 569 = .ok (.iadd, 1) := dk_96 ((cL_law_at 569 (by decide)).trans (by decide +kernel))
theorem dL_law_570 : decode cL_law 570 = .ok (.iaload, 1) := dk_46 ((cL_law_at 570 (by decide)).trans (by decide +kernel))
theorem dL_law_571 : decode cL_law 571 = .ok (.aload_n 3, 1) := dk_45 ((cL_law_at 571 (by decide)).trans (by decide +kernel))
theorem dL_law_572 : decode cL_law 572 = .ok (.invokestatic 170, 3) := (dk_184 (a := 0) (b := 170) ((cL_law_at 572 (by decide)).trans (by decide +kernel)) ((cL_law_at 573 (by decide)).trans (by decide +kernel)) ((cL_law_at 574 (by decide)).trans (by decide +kernel))).trans (by decide +kernel)
theorem dL_law_575 : decode cL_law 575 = .ok (.istore 6, 2) := (dk_54 (a := 6) ((cL_law_at 575 (by decide)).trans (by decide +kernel)) ((cL_law_at 576 (by decide)).trans (by decide +kernel))).trans (by decide +kernel)
theorem dL_law_577 : decode cL_law 577 = .ok (.aload_n 2, 1) := dk_44 ((cL_law_at 577 (by decide)).trans (by decide +kernel))
theorem dL_law_578 : decode cL_law 578 = .ok (.aload_n 0, 1) := dk_42 ((cL_law_at 578 (by decide)).trans (by decide +kernel))
theorem dL_law_579 : decode cL_law 579 = .ok (.iload 5, 2) := (dk_21 (a := 5) ((cL_law_at 579 (by decide)).trans (by decide +kernel)) ((cL_law_at 580 (by decide)).trans (by decide +kernel))).trans (by decide +kernel)
theorem dL_law_581 : decode cL_law 581 = .ok (.iconst 1, 1) := dk_4 ((cL_law_at 581 (by decide)).trans (by decide +kernel))
theorem dL_law_582 : decode cL_law 582 = .ok (.iadd, 1) := dk_96 ((cL_law_at 582 (by decide)).trans (by decide +kernel))
theorem dL_law_583 : decode cL_law 583 = .ok (.iaload, 1) := dk_46 ((cL_law_at 583 (by decide)).trans (by decide +kernel))
theorem dL_law_584 : decode cL_law 584 = .ok (.invokevirtual 172, 3) := (dk_182 (a := 0) (b := 172) ((cL_law_at 584 (by decide)).trans (by decide +kernel)) ((cL_law_at 585 (by decide)).trans (by decide +kernel)) ((cL_law_at 586 (by decide)).trans (by decide +kernel))).trans (by decide +kernel)
theorem dL_law_587 : decode cL_law 587 = .ok (.istore 7, 2) := (dk_54 (a := 7) ((cL_law_at 587 (by decide)).trans (by decide +kernel)) ((cL_law_at 588 (by decide)).trans (by decide +kernel))).trans (by decide +kernel)
theorem dL_law_589 : decode cL_law 589 = .ok (.goto 792, 3) := (dk_167 (a := 3) (b := 24) ((cL_law_at 589 (by decide)).trans (by decide +kernel)) ((cL_law_at 590 (by decide)).trans (by decide +kernel)) ((cL_law_at 591 (by decide)).trans (by decide +kernel))).trans (by decide +kernel)
theorem dL_law_592 : decode cL_law 592 = .ok (.aload_n 1, 1) := dk_43 ((cL_law_at 592 (by decide)).trans (by decide +kernel))
theorem dL_law_593 : decode cL_law 593 = .ok (.aload_n 0, 1) := dk_42 ((cL_law_at 593 (by decide)).trans (by decide +kernel))
theorem dL_law_594 : decode cL_law 594 = .ok (.iload 5, 2) := (dk_21 (a := 5) ((cL_law_at 594 (by decide)).trans (by decide +kernel)) ((cL_law_at 595 (by decide)).trans (by decide +kernel))).trans (by decide +kernel)
theorem dL_law_596 : decode cL_law 596 = .ok (.iconst 1, 1) := dk_4 ((cL_law_at 596 (by decide)).trans (by decide +kernel))
theorem dL_law_597 : decode cL_law 597 = .ok (.iadd, 1) := dk_96 ((cL_law_at 597 (by decide)).trans (by decide +kernel))
theorem dL_law_598 : decode cL_law 598 = .ok (.iaload, 1) := dk_46 ((cL_law_at 598 (by decide)).trans (by decide +kernel))
theorem dL_law_599 : decode cL_law 599 = .ok (.aload_n 3, 1) := dk_45 ((cL_law_at 599 (by decide)).trans (by decide +kernel))
theorem dL_law_600 : decode cL_law 600 = .ok (.invokestatic 173, 3) := (dk_184 (a := 0) (b := 173) ((cL_law_at 600 (by decide)).trans (by decide +kernel)) ((cL_law_at 601 (by decide)).trans (by decide +kernel)) ((cL_law_at 602 (by decide)).trans (by decide +kernel))).trans (by decide +kernel)
theorem dL_law_603 : decode cL_law 603 = .ok (.istore 6, 2) := (dk_54 (a := 6) ((cL_law_at 603 (by decide)).trans (by decide +kernel)) ((cL_law_at 604 (by decide)).trans (by decide +kernel))).trans (by decide +kernel)
theorem dL_law_605 : decode cL_law 605 = .ok (.aload_n 2, 1) := dk_44 ((cL_law_at 605 (by decide)).trans (by decide +kernel))
theorem dL_law_606 : decode cL_law 606 = .ok (.aload_n 0, 1) := dk_42 ((cL_law_at 606 (by decide)).trans (by decide +kernel))
theorem dL_law_607 : decode cL_law 607 = .ok (.iload 5, 2) := (dk_21 (a := 5) ((cL_law_at 607 (by decide)).trans (by decide +kernel)) ((cL_law_at 608 (by decide)).trans (by decide +kernel))).trans (by decide +kernel)
theorem dL_law_609 : decode cL_law 609 = .ok (.iconst 1, 1) := dk_4 ((cL_law_at 609 (by decide)).trans (by decide +kernel))
theorem dL_law_610 : decode cL_law 610 = .ok (.iadd, 1) := dk_96 ((cL_law_at 610 (by decide)).trans (by decide +kernel))
theorem dL_law_611 : decode cL_law 611 = .ok (.iaload, 1) := dk_46 ((cL_law_at 611 (by decide)).trans (by decide +kernel))
theorem dL_law_612 : decode cL_law 612 = .ok (.invokevirtual 175, 3) := (dk_182 (a := 0) (b := 175) ((cL_law_at 612 (by decide)).trans (by decide +kernel)) ((cL_law_at 613 (by decide)).trans (by decide +kernel)) ((cL_law_at 614 (by decide)).trans (by decide +kernel))).trans (by decide +kernel)
theorem dL_law_615 : decode cL_law 615 = .ok (.istore 7, 2) := (dk_54 (a := 7) ((cL_law_at 615 (by decide)).trans (by decide +kernel)) ((cL_law_at 616 (by decide)).trans (by decide +kernel))).trans (by decide +kernel)
theorem dL_law_617 : decode cL_law 617 = .ok (.goto 764, 3) := (dk_167 (a := 2) (b := 252) ((cL_law_at 617 (by decide)).trans (by decide +kernel)) ((cL_law_at 618 (by decide)).trans (by decide +kernel)) ((cL_law_at 619 (by decide)).trans (by decide +kernel))).trans (by decide +kernel)
theorem dL_law_620 : decode cL_law 620 = .ok (.aload_n 1, 1) := dk_43 ((cL_law_at 620 (by decide)).trans (by decide +kernel))
theorem dL_law_621 : decode cL_law 621 = .ok (.aload_n 0, 1) := dk_42 ((cL_law_at 621 (by decide)).trans (by decide +kernel))
theorem dL_law_622 : decode cL_law 622 = .ok (.iload 5, 2) := (dk_21 (a := 5) ((cL_law_at 622 (by decide)).trans (by decide +kernel)) ((cL_law_at 623 (by decide)).trans (by decide +kernel))).trans (by decide +kernel)
theorem dL_law_624 : decode cL_law 624 = .ok (.iconst 1, 1) := dk_4 ((cL_law_at 624 (by decide)).trans (by decide +kernel))
theorem dL_law_625 : decode cL_law 625 = .ok (.iadd, 1) := dk_96 ((cL_law_at 625 (by decide)).trans (by decide +kernel))
theorem dL_law_626 : decode cL_law 626 = .ok (.iaload, 1) := dk_46 ((cL_law_at 626 (by decide)).trans (by decide +kernel))
theorem dL_law_627 : decode cL_law 627 = .ok (.aload_n 3, 1) := dk_45 ((cL_law_at 627 (by decide)).trans (by decide +kernel))
theorem dL_law_628 : decode cL_law 628 = .ok (.invokestatic 176, 3) := (dk_184 (a := 0) (b := 176) ((cL_law_at 628 (by decide)).trans (by decide +kernel)) ((cL_law_at 629 (by decide)).trans (by decide +kernel)) ((cL_law_at 630 (by decide)).trans (by decide +kernel))).trans (by decide +kernel)
theorem dL_law_631 : decode cL_law 631 = .ok (.istore 6, 2) := (dk_54 (a := 6) ((cL_law_at 631 (by decide)).trans (by decide +kernel)) ((cL_law_at 632 (by decide)).trans (by decide +kernel))).trans (by decide +kernel)
theorem dL_law_633 : decode cL_law 633 = .ok (.aload_n 2, 1) := dk_44 ((cL_law_at 633 (by decide)).trans (by decide +kernel))
theorem dL_law_634 : decode cL_law 634 = .ok (.aload_n 0, 1) := dk_42 ((cL_law_at 634 (by decide)).trans (by decide +kernel))
theorem dL_law_635 : decode cL_law 635 = .ok (.iload 5, 2) := (dk_21 (a := 5) ((cL_law_at 635 (by decide)).trans (by decide +kernel)) ((cL_law_at 636 (by decide)).trans (by decide +kernel))).trans (by decide +kernel)
theorem dL_law_637 : decode cL_law 637 = .ok (.iconst 1, 1) := dk_4 ((cL_law_at 637 (by decide)).trans (by decide +kernel))
theorem dL_law_638 : decode cL_law 638 = .ok (.iadd, 1) := dk_96 ((cL_law_at 638 (by decide)).trans (by decide +kernel))
theorem dL_law_639 : decode cL_law 639 = .ok (.iaload, 1) := dk_46 ((cL_law_at 639 (by decide)).trans (by decide +kernel))
theorem dL_law_640 : decode cL_law 640 = .ok (.invokevirtual 178, 3) := (dk_182 (a := 0) (b := 178) ((cL_law_at 640 (by decide)).trans (by decide +kernel)) ((cL_law_at 641 (by decide)).trans (by decide +kernel)) ((cL_law_at 642 (by decide)).trans (by decide +kernel))).trans (by decide +kernel)
theorem dL_law_643 : decode cL_law 643 = .ok (.istore 7, 2) := (dk_54 (a := 7) ((cL_law_at 643 (by decide)).trans (by decide +kernel)) ((cL_law_at 644 (by decide)).trans (by decide +kernel))).trans (by decide +kernel)
theorem dL_law_645 : decode cL_law 645 = .ok (.goto 736, 3) := (dk_167 (a := 2) (b := 224) ((cL_law_at 645 (by decide)).trans (by decide +kernel)) ((cL_law_at 646 (by decide)).trans (by decide +kernel)) ((cL_law_at 647 (by decide)).trans (by decide +kernel))).trans (by decide +kernel)
theorem dL_law_648 : decode cL_law 648 = .ok (.aload_n 1, 1) := dk_43 ((cL_law_at 648 (by decide)).trans (by decide +kernel))
theorem dL_law_649 : decode cL_law 649 = .ok (.aload_n 0, 1) := dk_42 ((cL_law_at 649 (by decide)).trans (by decide +kernel))
theorem dL_law_650 : decode cL_law 650 = .ok (.iload 5, 2) := (dk_21 (a := 5) ((cL_law_at 650 (by decide)).trans (by decide +kernel)) ((cL_law_at 651 (by decide)).trans (by decide +kernel))).trans (by decide +kernel)
theorem dL_law_652 : decode cL_law 652 = .ok (.iconst 1, 1) := dk_4 ((cL_law_at 652 (by decide)).trans (by decide +kernel))
theorem dL_law_653 : decode cL_law 653 = .ok (.iadd, 1) := dk_96 ((cL_law_at 653 (by decide)).trans (by decide +kernel))
theorem dL_law_654 : decode cL_law 654 = .ok (.iaload, 1) := dk_46 ((cL_law_at 654 (by decide)).trans (by decide +kernel))
theorem dL_law_655 : decode cL_law 655 = .ok (.aload_n 3, 1) := dk_45 ((cL_law_at 655 (by decide)).trans (by decide +kernel))
theorem dL_law_656 : decode cL_law 656 = .ok (.invokestatic 179, 3) := (dk_184 (a := 0) (b := 179) ((cL_law_at 656 (by decide)).trans (by decide +kernel)) ((cL_law_at 657 (by decide)).trans (by decide +kernel)) ((cL_law_at 658 (by decide)).trans (by decide +kernel))).trans (by decide +kernel)
theorem dL_law_659 : decode cL_law 659 = .ok (.istore 6, 2) := (dk_54 (a := 6) ((cL_law_at 659 (by decide)).trans (by decide +kernel)) ((cL_law_at 660 (by decide)).trans (by decide +kernel))).trans (by decide +kernel)
theorem dL_law_661 : decode cL_law 661 = .ok (.aload_n 2, 1) := dk_44 ((cL_law_at 661 (by decide)).trans (by decide +kernel))
theorem dL_law_662 : decode cL_law 662 = .ok (.aload_n 0, 1) := dk_42 ((cL_law_at 662 (by decide)).trans (by decide +kernel))
theorem dL_law_663 : decode cL_law 663 = .ok (.iload 5, 2) := (dk_21 (a := 5) ((cL_law_at 663 (by decide)).trans (by decide +kernel)) ((cL_law_at 664 (by decide)).trans (by decide +kernel))).trans (by decide +kernel)
theorem dL_law_665 : decode cL_law 665 = .ok (.iconst 1, 1) := dk_4 ((cL_law_at 665 (by decide)).trans (by decide +kernel))
theorem dL_law_666 : decode cL_law 666 = .ok (.iadd, 1) := dk_96 ((cL_law_at 666 (by decide)).trans (by decide +kernel))
theorem dL_law_667 : decode cL_law 667 = .ok (.iaload, 1) := dk_46 ((cL_law_at 667 (by decide)).trans (by decide +kernel))
theorem dL_law_668 : decode cL_law 668 = .ok (.invokevirtual 181, 3) := (dk_182 (a := 0) (b := 181) ((cL_law_at 668 (by decide)).trans (by decide +kernel)) ((cL_law_at 669 (by decide)).trans (by decide +kernel)) ((cL_law_at 670 (by decide)).trans (by decide +kernel))).trans (by decide +kernel)
theorem dL_law_671 : decode cL_law 671 = .ok (.istore 7, 2) := (dk_54 (a := 7) ((cL_law_at 671 (by decide)).trans (by decide +kernel)) ((cL_law_at 672 (by decide)).trans (by decide +kernel))).trans (by decide +kernel)
theorem dL_law_673 : decode cL_law 673 = .ok (.goto 708, 3) := (dk_167 (a := 2) (b := 196) ((cL_law_at 673 (by decide)).trans (by decide +kernel)) ((cL_law_at 674 (by decide)).trans (by decide +kernel)) ((cL_law_at 675 (by decide)).trans (by decide +kernel))).trans (by decide +kernel)
theorem dL_law_676 : decode cL_law 676 = .ok (.aload_n 1, 1) := dk_43 ((cL_law_at 676 (by decide)).trans (by decide +kernel))
theorem dL_law_677 : decode cL_law 677 = .ok (.aload_n 0, 1) := dk_42 ((cL_law_at 677 (by decide)).trans (by decide +kernel))
theorem dL_law_678 : decode cL_law 678 = .ok (.iload 5, 2) := (dk_21 (a := 5) ((cL_law_at 678 (by decide)).trans (by decide +kernel)) ((cL_law_at 679 (by decide)).trans (by decide +kernel))).trans (by decide +kernel)
theorem dL_law_680 : decode cL_law 680 = .ok (.iconst 1, 1) := dk_4 ((cL_law_at 680 (by decide)).trans (by decide +kernel))
theorem dL_law_681 : decode cL_law 681 = .ok (.iadd, 1) := dk_96 ((cL_law_at 681 (by decide)).trans (by decide +kernel))
theorem dL_law_682 : decode cL_law 682 = .ok (.iaload, 1) := dk_46 ((cL_law_at 682 (by decide)).trans (by decide +kernel))
theorem dL_law_683 : decode cL_law 683 = .ok (.aload_n 0, 1) := dk_42 ((cL_law_at 683 (by decide)).trans (by decide +kernel))
theorem dL_law_684 : decode cL_law 684 = .ok (.iload 5, 2) := (dk_21 (a := 5) ((cL_law_at 684 (by decide)).trans (by decide +kernel)) ((cL_law_at 685 (by decide)).trans (by decide +kernel))).trans (by decide +kernel)
theorem dL_law_686 : decode cL_law 686 = .ok (.iconst 2, 1) := dk_5 ((cL_law_at 686 (by decide)).trans (by decide +kernel))
theorem dL_law_687 : decode cL_law 687 = .ok (.iadd, 1) := dk_96 ((cL_law_at 687 (by decide)).trans (by decide +kernel))
theorem dL_law_688 : decode cL_law 688 = .ok (.iaload, 1) := dk_46 ((cL_law_at 688 (by decide)).trans (by decide +kernel))
theorem dL_law_689 : decode cL_law 689 = .ok (.aload_n 0, 1) := dk_42 ((cL_law_at 689 (by decide)).trans (by decide +kernel))
theorem dL_law_690 : decode cL_law 690 = .ok (.iload 5, 2) := (dk_21 (a := 5) ((cL_law_at 690 (by decide)).trans (by decide +kernel)) ((cL_law_at 691 (by decide)).trans (by decide +kernel))).trans (by decide +kernel)
theorem dL_law_692 : decode cL_law 692 = .ok (.iconst 3, 1) := dk_6 ((cL_law_at 692 (by decide)).trans (by decide +kernel))
theorem dL_law_693 : decode cL_law 693 = .ok (.iadd, 1) := dk_96 ((cL_law_at 693 (by decide)).trans (by decide +kernel))
theorem dL_law_694 : decode cL_law 694 = .ok (.iaload, 1) := dk_46 ((cL_law_at 694 (by decide)).trans (by decide +kernel))
theorem dL_law_695 : decode cL_law 695 = .ok (.i2c, 1) := dk_146 ((cL_law_at 695 (by decide)).trans (by decide +kernel))
theorem dL_law_696 : decode cL_law 696 = .ok (.aload_n 3, 1) := dk_45 ((cL_law_at 696 (by decide)).trans (by decide +kernel))
theorem dL_law_697 : decode cL_law 697 = .ok (.invokestatic 182, 3) := (dk_184 (a := 0) (b := 182) ((cL_law_at 697 (by decide)).trans (by decide +kernel)) ((cL_law_at 698 (by decide)).trans (by decide +kernel)) ((cL_law_at 699 (by decide)).trans (by decide +kernel))).trans (by decide +kernel)
theorem dL_law_700 : decode cL_law 700 = .ok (.istore 6, 2) := (dk_54 (a := 6) ((cL_law_at 700 (by decide)).trans (by decide +kernel)) ((cL_law_at 701 (by decide)).trans (by decide +kernel))).trans (by decide +kernel)
theorem dL_law_702 : decode cL_law 702 = .ok (.aload_n 2, 1) := dk_44 ((cL_law_at 702 (by decide)).trans (by decide +kernel))
theorem dL_law_703 : decode cL_law 703 = .ok (.aload_n 0, 1) := dk_42 ((cL_law_at 703 (by decide)).trans (by decide +kernel))
theorem dL_law_704 : decode cL_law 704 = .ok (.iload 5, 2) := (dk_21 (a := 5) ((cL_law_at 704 (by decide)).trans (by decide +kernel)) ((cL_law_at 705 (by decide)).trans (by decide +kernel))).trans (by decide +kernel)
theorem dL_law_706 : decode cL_law 706 = .ok (.iconst 1, 1) := dk_4 ((cL_law_at 706 (by decide)).trans (by decide +kernel))
theorem dL_law_707 : decode cL_law 707 = .ok (.iadd, 1) := dk_96 ((cL_law_at 707 (by decide)).trans (by decide +kernel))
theorem dL_law_708 : decode cL_law 708 = .ok (.iaload, 1) := dk_46 ((cL_law_at 708 (by decide)).trans (by decide +kernel))
theorem dL_law_709 : decode cL_law 709 = .ok (.aload_n 0, 1) := dk_42 ((cL_law_at 709 (by decide)).trans (by decide +kernel))
theorem dL_law_710 : decode cL_law 710 = .ok (.iload 5, 2) := (dk_21 (a := 5) ((cL_law_at 710 (by decide)).trans (by decide +kernel)) ((cL_law_at 711 (by decide)).trans (by decide +kernel))).trans (by decide +kernel)
theorem dL_law_712 : decode cL_law 712 = .ok (.iconst 2, 1) := dk_5 ((cL_law_at 712 (by decide)).trans (by decide +kernel))
theorem dL_law_713 : decode cL_law 713 = .ok (.iadd, 1) := dk_96 ((cL_law_at 713 (by decide)).trans (by decide +kernel))
theorem dL_law_714 : decode cL_law 714 = .ok (.iaload, 1) := dk_46 ((cL_law_at 714 (by decide)).trans (by decide +kernel))
theorem dL_law_715 : decode cL_law 715 = .ok (.aload_n 0, 1) := dk_42 ((cL_law_at 715 (by decide)).trans (by decide +kernel))
theorem dL_law_716 : decode cL_law 716 = .ok (.iload 5, 2) := (dk_21 (a := 5) ((cL_law_at 716 (by decide)).trans (by decide +kernel)) ((cL_law_at 717 (by decide)).trans (by decide +kernel))).trans (by decide +kernel)
theorem dL_law_718 : decode cL_law 718 = .ok (.iconst 3, 1) := dk_6 ((cL_law_at 718 (by decide)).trans (by decide +kernel))
theorem dL_law_719 : decode cL_law 719 = .ok (.iadd, 1) := dk_96 ((cL_law_at 719 (by decide)).trans (by decide +kernel))
theorem dL_law_720 : decode cL_law 720 = .ok (.iaload, 1) := dk_46 ((cL_law_at 720 (by decide)).trans (by decide +kernel))
theorem dL_law_721 : decode cL_law 721 = .ok (.i2c, 1) := dk_146 ((cL_law_at 721 (by decide)).trans (by decide +kernel))
theorem dL_law_722 : decode cL_law 722 = .ok (.invokevirtual 185, 3) := (dk_182 (a := 0) (b := 185) ((cL_law_at 722 (by decide)).trans (by decide +kernel)) ((cL_law_at 723 (by decide)).trans (by decide +kernel)) ((cL_law_at 724 (by decide)).trans (by decide +kernel))).trans (by decide +kernel)
theorem dL_law_725 : decode cL_law 725 = .ok (.istore 7, 2) := (dk_54 (a := 7) ((cL_law_at 725 (by decide)).trans (by decide +kernel)) ((cL_law_at 726 (by decide)).trans (by decide +kernel))).trans (by decide +kernel)
theorem dL_law_727 : decode cL_law 727 = .ok (.goto 654, 3) := (dk_167 (a := 2) (b := 142) ((cL_law_at 727 (by decide)).trans (by decide +kernel)) ((cL_law_at 728 (by decide)).trans (by decide +kernel)) ((cL_law_at 729 (by decide)).trans (by decide +kernel))).trans (by decide +kernel)
theorem dL_law_730 : decode cL_law 730 = .ok (.aload_n 1, 1) := dk_43 ((cL_law_at 730 (by decide)).trans (by decide +kernel))
theorem dL_law_731 : decode cL_law 731 = .ok (.aload_n 0, 1) := dk_42 ((cL_law_at 731 (by decide)).trans (by decide +kernel))
theorem dL_law_732 : decode cL_law 732 = .ok (.iload 5, 2) := (dk_21 (a := 5) ((cL_law_at 732 (by decide)).trans (by decide +kernel)) ((cL_law_at 733 (by decide)).trans (by decide +kernel))).trans (by decide +kernel)
theorem dL_law_734 : decode cL_law 734 = .ok (.iconst 1, 1) := dk_4 ((cL_law_at 734 (by decide)).trans (by decide +kernel))
theorem dL_law_735 : decode cL_law 735 = .ok (.iadd, 1) := dk_96 ((cL_law_at 735 (by decide)).trans (by decide +kernel))
theorem dL_law_736 : decode cL_law 736 = .ok (.iaload, 1) := dk_46 ((cL_law_at 736 (by decide)).trans (by decide +kernel))
theorem dL_law_737 : decode cL_law 737 = .ok (.aload_n 3, 1) := dk_45 ((cL_law_at 737 (by decide)).trans (by decide +kernel))
theorem dL_law_738 : decode cL_law 738 = .ok (.invokestatic 186, 3) := (dk_184 (a := 0) (b := 186) ((cL_law_at 738 (by decide)).trans (by decide +kernel)) ((cL_law_at 739 (by decide)).trans (by decide +kernel)) ((cL_law_at 740 (by decide)).trans (by decide +kernel))).trans (by decide +kernel)
theorem dL_law_741 : decode cL_law 741 = .ok (.istore 6, 2) := (dk_54 (a := 6) ((cL_law_at 741 (by decide)).trans (by decide +kernel)) ((cL_law_at 742 (by decide)).trans (by decide +kernel))).trans (by decide +kernel)
theorem dL_law_743 : decode cL_law 743 = .ok (.aload_n 2, 1) := dk_44 ((cL_law_at 743 (by decide)).trans (by decide +kernel))
theorem dL_law_744 : decode cL_law 744 = .ok (.aload_n 0, 1) := dk_42 ((cL_law_at 744 (by decide)).trans (by decide +kernel))
theorem dL_law_745 : decode cL_law 745 = .ok (.iload 5, 2) := (dk_21 (a := 5) ((cL_law_at 745 (by decide)).trans (by decide +kernel)) ((cL_law_at 746 (by decide)).trans (by decide +kernel))).trans (by decide +kernel)
theorem dL_law_747 : decode cL_law 747 = .ok (.iconst 1, 1) := dk_4 ((cL_law_at 747 (by decide)).trans (by decide +kernel))
theorem dL_law_748 : decode cL_law 748 = .ok (.iadd, 1) := dk_96 ((cL_law_at 748 (by decide)).trans (by decide +kernel))
theorem dL_law_749 : decode cL_law 749 = .ok (.iaload, 1) := dk_46 ((cL_law_at 749 (by decide)).trans (by decide +kernel))
theorem dL_law_750 : decode cL_law 750 = .ok (.invokevirtual 188, 3) := (dk_182 (a := 0) (b := 188) ((cL_law_at 750 (by decide)).trans (by decide +kernel)) ((cL_law_at 751 (by decide)).trans (by decide +kernel)) ((cL_law_at 752 (by decide)).trans (by decide +kernel))).trans (by decide +kernel)
theorem dL_law_753 : decode cL_law 753 = .ok (.istore 7, 2) := (dk_54 (a := 7) ((cL_law_at 753 (by decide)).trans (by decide +kernel)) ((cL_law_at 754 (by decide)).trans (by decide +kernel))).trans (by decide +kernel)
theorem dL_law_755 : decode cL_law 755 = .ok (.goto 626, 3) := (dk_167 (a := 2) (b := 114) ((cL_law_at 755 (by decide)).trans (by decide +kernel)) ((cL_law_at 756 (by decide)).trans (by decide +kernel)) ((cL_law_at 757 (by decide)).trans (by decide +kernel))).trans (by decide +kernel)
theorem dL_law_758 : decode cL_law 758 = .ok (.aload_n 1, 1) := dk_43 ((cL_law_at 758 (by decide)).trans (by decide +kernel))
theorem dL_law_759 : decode cL_law 759 = .ok (.aload_n 0, 1) := dk_42 ((cL_law_at 759 (by decide)).trans (by decide +kernel))
theorem dL_law_760 : decode cL_law 760 = .ok (.iload 5, 2) := (dk_21 (a := 5) ((cL_law_at 760 (by decide)).trans (by decide +kernel)) ((cL_law_at 761 (by decide)).trans (by decide +kernel))).trans (by decide +kernel)
theorem dL_law_762 : decode cL_law 762 = .ok (.iconst 1, 1) := dk_4 ((cL_law_at 762 (by decide)).trans (by decide +kernel))
theorem dL_law_763 : decode cL_law 763 = .ok (.iadd, 1) := dk_96 ((cL_law_at 763 (by decide)).trans (by decide +kernel))
theorem dL_law_764 : decode cL_law 764 = .ok (.iaload, 1) := dk_46 ((cL_law_at 764 (by decide)).trans (by decide +kernel))
theorem dL_law_765 : decode cL_law 765 = .ok (.aload_n 3, 1) := dk_45 ((cL_law_at 765 (by decide)).trans (by decide +kernel))
theorem dL_law_766 : decode cL_law 766 = .ok (.invokestatic 189, 3) := (dk_184 (a := 0) (b := 189) ((cL_law_at 766 (by decide)).trans (by decide +kernel)) ((cL_law_at 767 (by decide)).trans (by decide +kernel)) ((cL_law_at 768 (by decide)).trans (by decide +kernel))).trans (by decide +kernel)
theorem dL_law_769 : decode cL_law 769 = .ok (.istore 6, 2) := (dk_54 (a := 6) ((cL_law_at 769 (by decide)).trans (by decide +kernel)) ((cL_law_at 770 (by decide)).trans (by decide +kernel))).trans (by decide +kernel)
theorem dL_law_771 : decode cL_law 771 = .ok (.aload_n 2, 1) := dk_44 ((cL_law_at 771 (by decide)).trans (by decide +kernel))
theorem dL_law_772 : decode cL_law 772 = .ok (.aload_n 0, 1) := dk_42 ((cL_law_at 772 (by decide)).trans (by decide +kernel))
theorem dL_law_773 : decode cL_law 773 = .ok (.iload 5, 2) := (dk_21 (a := 5) ((cL_law_at 773 (by decide)).trans (by decide +kernel)) ((cL_law_at 774 (by decide)).trans (by decide +kernel))).trans (by decide +kernel)
theorem dL_law_775 : decode cL_law 775 = .ok (.iconst 1, 1) := dk_4 ((cL_law_at 775 (by decide)).trans (by decide +kernel))
theorem dL_law_776 : decode cL_law 776 = .ok (.iadd, 1) := dk_96 ((cL_law_at 776 (by decide)).trans (by decide +kernel))
theorem dL_law_777 : decode cL_law 777 = .ok (.iaload, 1) := dk_46 ((cL_law_at 777 (by decide)).trans (by decide +kernel))
theorem dL_law_778 : decode cL_law 778 = .ok (.invokevirtual 191, 3) := (dk_182 (a := 0) (b := 191) ((cL_law_at 778 (by decide)).trans (by decide +kernel)) ((cL_law_at 779 (by decide)).trans (by decide +kernel)) ((cL_law_at 780 (by decide)).trans (by decide +kernel))).trans (by decide +kernel)
theorem dL_law_781 : decode cL_law 781 = .ok (.istore 7, 2) := (dk_54 (a := 7) ((cL_law_at 781 (by decide)).trans (by decide +kernel)) ((cL_law_at 782 (by decide)).trans (by decide +kernel))).trans (by decide +kernel)
theorem dL_law_783 : decode cL_law 783 = .ok (.goto 598, 3) := (dk_167 (a := 2) (b := 86) ((cL_law_at 783 (by decide)).trans (by decide +kernel)) ((cL_law_at 784 (by decide)).trans (by decide +kernel)) ((cL_law_at 785 (by decide)).trans (by decide +kernel))).trans (by decide +kernel)
theorem dL_law_786 : decode cL_law 786 = .ok (.aload_n 1, 1) := dk_43 ((cL_law_at 786 (by decide)).trans (by decide +kernel))
theorem dL_law_787 : decode cL_law 787 = .ok (.aload_n 0, 1) := dk_42 ((cL_law_at 787 (by decide)).trans (by decide +kernel))
theorem dL_law_788 : decode cL_law 788 = .ok (.iload 5, 2) := (dk_21 (a := 5) ((cL_law_at 788 (by decide)).trans (by decide +kernel)) ((cL_law_at 789 (by decide)).trans (by decide +kernel))).trans (by decide +kernel)
theorem dL_law_790 : decode cL_law 790 = .ok (.iconst 1, 1) := dk_4 ((cL_law_at 790 (by decide)).trans (by decide +kernel))
theorem dL_law_791 : decode cL_law 791 = .ok (.iadd, 1) := dk_96 ((cL_law_at 791 (by decide)).trans (by decide +kernel))
theorem dL_law_792 : decode cL_law 792 = .ok (.iaload, 1) := dk_46 ((cL_law_at 792 (by decide)).trans (by decide +kernel))
theorem dL_law_793 : decode cL_law 793 = .ok (.aload_n 0, 1) := dk_42 ((cL_law_at 793 (by decide)).trans (by decide +kernel))
theorem dL_law_794 : decode cL_law 794 = .ok (.iload 5, 2) := (dk_21 (a := 5) ((cL_law_at 794 (by decide)).trans (by decide +kernel)) ((cL_law_at 795 (by decide)).trans (by decide +kernel))).trans (by decide +kernel)
theorem dL_law_796 : decode cL_law 796 = .ok (.iconst 2, 1) := dk_5 ((cL_law_at 796 (by decide)).trans (by decide +kernel))
theorem dL_law_797 : decode cL_law 797 = .ok (.iadd, 1) := dk_96 ((cL_law_at 797 (by decide)).trans (by decide +kernel))
theorem dL_law_798 : decode cL_law 798 = .ok (.iaload, 1) := dk_46 ((cL_law_at 798 (by decide)).trans (by decide +kernel))
theorem dL_law_799 : decode cL_law 799 = .ok (.aload_n 3, 1) := dk_45 ((cL_law_at 799 (by decide)).trans (by decide +kernel))
theorem dL_law_800 : decode cL_law 800 = .ok (.invokestatic 192, 3) := (dk_184 (a := 0) (b := 192) ((cL_law_at 800 (by decide)).trans (by decide +kernel)) ((cL_law_at 801 (by decide)).trans (by decide +kernel)) ((cL_law_at 802 (by decide)).trans (by decide +kernel))).trans (by decide +kernel)
theorem dL_law_803 : decode cL_law 803 = .ok (.istore 6, 2) := (dk_54 (a := 6) ((cL_law_at 803 (by decide)).trans (by decide +kernel)) ((cL_law_at 804 (by decide)).trans (by decide +kernel))).trans (by decide +kernel)
theorem dL_law_805 : decode cL_law 805 = .ok (.aload_n 2, 1) := dk_44 ((cL_law_at 805 (by decide)).trans (by decide +kernel))
theorem dL_law_806 : decode cL_law 806 = .ok (.aload_n 0, 1) := dk_42 ((cL_law_at 806 (by decide)).trans (by decide +kernel))
theorem dL_law_807 : decode cL_law 807 = .ok (.iload 5, 2) := (dk_21 (a := 5) ((cL_law_at 807 (by decide)).trans (by decide +kernel)) ((cL_law_at 808 (by decide)).trans (by decide +kernel))).trans (by decide +kernel)
theorem dL_law_809 : decode cL_law 809 = .ok (.iconst 1, 1) := dk_4 ((cL_law_at 809 (by decide)).trans (by decide +kernel))
theorem dL_law_810 : decode cL_law 810 = .ok (.iadd, 1) := dk_96 ((cL_law_at 810 (by decide)).trans (by decide +kernel))
theorem dL_law_811 : decode cL_law 811 = .ok (.iaload, 1) := dk_46 ((cL_law_at 811 (by decide)).trans (by decide +kernel))
theorem dL_law_812 : decode cL_law 812 = .ok (.aload_n 0, 1) := dk_42 ((cL_law_at 812 (by decide)).trans (by decide +kernel))
theorem dL_law_813 : decode cL_law 813 = .ok (.iload 5, 2) := (dk_21 (a := 5) ((cL_law_at 813 (by decide)).trans (by decide +kernel)) ((cL_law_at 814 (by decide)).trans (by decide +kernel))).trans (by decide +kernel)
theorem dL_law_815 : decode cL_law 815 = .ok (.iconst 2, 1) := dk_5 ((cL_law_at 815 (by decide)).trans (by decide +kernel))
theorem dL_law_816 : decode cL_law 816 = .ok (.iadd, 1) := dk_96 ((cL_law_at 816 (by decide)).trans (by decide +kernel))
theorem dL_law_817 : decode cL_law 817 = .ok (.iaload, 1) := dk_46 ((cL_law_at 817 (by decide)).trans (by decide +kernel))
theorem dL_law_818 : decode cL_law 818 = .ok (.invokevirtual 194, 3) := (dk_182 (a := 0) (b := 194) ((cL_law_at 818 (by decide)).trans (by decide +kernel)) ((cL_law_at 819 (by decide)).trans (by decide +kernel)) ((cL_law_at 820 (by decide)).trans (by decide +kernel))).trans (by decide +kernel)
theorem dL_law_821 : decode cL_law 821 = .ok (.istore 7, 2) := (dk_54 (a := 7) ((cL_law_at 821 (by decide)).trans (by decide +kernel)) ((cL_law_at 822 (by decide)).trans (by decide +kernel))).trans (by decide +kernel)
theorem dL_law_823 : decode cL_law 823 = .ok (.goto 558, 3) := (dk_167 (a := 2) (b := 46) ((cL_law_at 823 (by decide)).trans (by decide +kernel)) ((cL_law_at 824 (by decide)).trans (by decide +kernel)) ((cL_law_at 825 (by decide)).trans (by decide +kernel))).trans (by decide +kernel)
theorem dL_law_826 : decode cL_law 826 = .ok (.aload_n 1, 1) := dk_43 ((cL_law_at 826 (by decide)).trans (by decide +kernel))
theorem dL_law_827 : decode cL_law 827 = .ok (.aload_n 0, 1) := dk_42 ((cL_law_at 827 (by decide)).trans (by decide +kernel))
theorem dL_law_828 : decode cL_law 828 = .ok (.iload 5, 2) := (dk_21 (a := 5) ((cL_law_at 828 (by decide)).trans (by decide +kernel)) ((cL_law_at 829 (by decide)).trans (by decide +kernel))).trans (by decide +kernel)
theorem dL_law_830 : decode cL_law 830 = .ok (.iconst 1, 1) := dk_4 ((cL_law_at 830 (by decide)).trans (by decide +kernel))
theorem dL_law_831 : decode cL_law 831 = .ok (.iadd, 1) := dk_96 ((cL_law_at 831 (by decide)).trans (by decide +kernel))
theorem dL_law_832 : decode cL_law 832 = .ok (.iaload, 1) := dk_46 ((cL_law_at 832 (by decide)).trans (by decide +kernel))
theorem dL_law_833 : decode cL_law 833 = .ok (.aload_n 0, 1) := dk_42 ((cL_law_at 833 (by decide)).trans (by decide +kernel))
theorem dL_law_834 : decode cL_law 834 = .ok (.iload 5, 2) := (dk_21 (a := 5) ((cL_law_at 834 (by decide)).trans (by decide +kernel)) ((cL_law_at 835 (by decide)).trans (by decide +kernel))).trans (by decide +kernel)
theorem dL_law_836 : decode cL_law 836 = .ok (.iconst 2, 1) := dk_5 ((cL_law_at 836 (by decide)).trans (by decide +kernel))
theorem dL_law_837 : decode cL_law 837 = .ok (.iadd, 1) := dk_96 ((cL_law_at 837 (by decide)).trans (by decide +kernel))
theorem dL_law_838 : decode cL_law 838 = .ok (.iaload, 1) := dk_46 ((cL_law_at 838 (by decide)).trans (by decide +kernel))
theorem dL_law_839 : decode cL_law 839 = .ok (.aload_n 3, 1) := dk_45 ((cL_law_at 839 (by decide)).trans (by decide +kernel))
theorem dL_law_840 : decode cL_law 840 = .ok (.invokestatic 195, 3) := (dk_184 (a := 0) (b := 195) ((cL_law_at 840 (by decide)).trans (by decide +kernel)) ((cL_law_at 841 (by decide)).trans (by decide +kernel)) ((cL_law_at 842 (by decide)).trans (by decide +kernel))).trans (by decide +kernel)
theorem dL_law_843 : decode cL_law 843 = .ok (.istore 6, 2) := (dk_54 (a := 6) ((cL_law_at 843 (by decide)).trans (by decide +kernel)) ((cL_law_at 844 (by decide)).trans (by decide +kernel))).trans (by decide +kernel)
theorem dL_law_845 : decode cL_law 845 = .ok (.aload_n 2, 1) := dk_44 ((cL_law_at 845 (by decide)).trans (by decide +kernel))
theorem dL_law_846 : decode cL_law 846 = .ok (.aload_n 0, 1) := dk_42 ((cL_law_at 846 (by decide)).trans (by decide +kernel))
theorem dL_law_847 : decode cL_law 847 = .ok (.iload 5, 2) := (dk_21 (a := 5) ((cL_law_at 847 (by decide)).trans (by decide +kernel)) ((cL_law_at 848 (by decide)).trans (by decide +kernel))).trans (by decide +kernel)
theorem dL_law_849 : decode cL_law 849 = .ok (.iconst 1, 1) := dk_4 ((cL_law_at 849 (by decide)).trans (by decide +kernel))
theorem dL_law_850 : decode cL_law 850 = .ok (.iadd, 1) := dk_96 ((cL_law_at 850 (by decide)).trans (by decide +kernel))
theorem dL_law_851 : decode cL_law 851 = .ok (.iaload, 1) := dk_46 ((cL_law_at 851 (by decide)).trans (by decide +kernel))
theorem dL_law_852 : decode cL_law 852 = .ok (.aload_n 0, 1) := dk_42 ((cL_law_at 852 (by decide)).trans (by decide +kernel))
theorem dL_law_853 : decode cL_law 853 = .ok (.iload 5, 2) := (dk_21 (a := 5) ((cL_law_at 853 (by decide)).trans (by decide +kernel)) ((cL_law_at 854 (by decide)).trans (by decide +kernel))).trans (by decide +kernel)
theorem dL_law_855 : decode cL_law 855 = .ok (.iconst 2, 1) := dk_5 ((cL_law_at 855 (by decide)).trans (by decide +kernel))
theorem dL_law_856 : decode cL_law 856 = .ok (.iadd, 1) := dk_96 ((cL_law_at 856 (by decide)).trans (by decide +kernel))
theorem dL_law_857 : decode cL_law 857 = .ok (.iaload, 1) := dk_46 ((cL_law_at 857 (by decide)).trans (by decide +kernel))
theorem dL_law_858 : decode cL_law 858 = .ok (.invokevirtual 197, 3) := (dk_182 (a := 0) (b := 197) ((cL_law_at 858 (by decide)).trans (by decide +kernel)) ((cL_law_at 859 (by decide)).trans (by decide +kernel)) ((cL_law_at 860 (by decide)).trans (by decide +kernel))).trans (by decide +kernel)
theorem dL_law_861 : decode cL_law 861 = .ok (.istore 7, 2) := (dk_54 (a := 7) ((cL_law_at 861 (by decide)).trans (by decide +kernel)) ((cL_law_at 862 (by decide)).trans (by decide +kernel))).trans (by decide +kernel)
theorem dL_law_863 : decode cL_law 863 = .ok (.goto 518, 3) := (dk_167 (a := 2) (b := 6) ((cL_law_at 863 (by decide)).trans (by decide +kernel)) ((cL_law_at 864 (by decide)).trans (by decide +kernel)) ((cL_law_at 865 (by decide)).trans (by decide +kernel))).trans (by decide +kernel)
theorem dL_law_866 : decode cL_law 866 = .ok (.aload_n 1, 1) := dk_43 ((cL_law_at 866 (by decide)).trans (by decide +kernel))
theorem dL_law_867 : decode cL_law 867 = .ok (.aload_n 0, 1) := dk_42 ((cL_law_at 867 (by decide)).trans (by decide +kernel))
theorem dL_law_868 : decode cL_law 868 = .ok (.iload 5, 2) := (dk_21 (a := 5) ((cL_law_at 868 (by decide)).trans (by decide +kernel)) ((cL_law_at 869 (by decide)).trans (by decide +kernel))).trans (by decide +kernel)
theorem dL_law_870 : decode cL_law 870 = .ok (.iconst 1, 1) := dk_4 ((cL_law_at 870 (by decide)).trans (by decide +kernel))
theorem dL_law_871 : decode cL_law 871 = .ok (.iadd, 1) := dk_96 ((cL_law_at 871 (by decide)).trans (by decide +kernel))
theorem dL_law_872 : decode cL_law 872 = .ok (.iaload, 1) := dk_46 ((cL_law_at 872 (by decide)).trans (by decide +kernel))
theorem dL_law_873 : decode cL_law 873 = .ok (.aload_n 3, 1) := dk_45 ((cL_law_at 873 (by decide)).trans (by decide +kernel))
theorem dL_law_874 : decode cL_law 874 = .ok (.invokestatic 198, 3) := (dk_184 (a := 0) (b := 198) ((cL_law_at 874 (by decide)).trans (by decide +kernel)) ((cL_law_at 875 (by decide)).trans (by decide +kernel)) ((cL_law_at 876 (by decide)).trans (by decide +kernel))).trans (by decide +kernel)
theorem dL_law_877 : decode cL_law 877 = .ok (.istore 6, 2) := (dk_54 (a := 6) ((cL_law_at 877 (by decide)).trans (by decide +kernel)) ((cL_law_at 878 (by decide)).trans (by decide +kernel))).trans (by decide +kernel)
theorem dL_law_879 : decode cL_law 879 = .ok (.aload_n 2, 1) := dk_44 ((cL_law_at 879 (by decide)).trans (by decide +kernel))
theorem dL_law_880 : decode cL_law 880 = .ok (.aload_n 0, 1) := dk_42 ((cL_law_at 880 (by decide)).trans (by decide +kernel))
theorem dL_law_881 : decode cL_law 881 = .ok (.iload 5, 2) := (dk_21 (a := 5) ((cL_law_at 881 (by decide)).trans (by decide +kernel)) ((cL_law_at 882 (by decide)).trans (by decide +kernel))).trans (by decide +kernel)
theorem dL_law_883 : decode cL_law 883 = .ok (.iconst 1, 1) := dk_4 ((cL_law_at 883 (by decide)).trans (by decide +kernel))
theorem dL_law_884 : decode cL_law 884 = .ok (.iadd, 1) := dk_96 ((cL_law_at 884 (by decide)).trans (by decide +kernel))
theorem dL_law_885 : decode cL_law 885 = .ok (.iaload, 1) := dk_46 ((cL_law_at 885 (by decide)).trans (by decide +kernel))
theorem dL_law_886 : decode cL_law 886 = .ok (.invokevirtual 200, 3) := (dk_182 (a := 0) (b := 200) ((cL_law_at 886 (by decide)).trans (by decide +kernel)) ((cL_law_at 887 (by decide)).trans (by decide +kernel)) ((cL_law_at 888 (by decide)).trans (by decide +kernel))).trans (by decide +kernel)
theorem dL_law_889 : decode cL_law 889 = .ok (.istore 7, 2) := (dk_54 (a := 7) ((cL_law_at 889 (by decide)).trans (by decide +kernel)) ((cL_law_at 890 (by decide)).trans (by decide +kernel))).trans (by decide +kernel)
theorem dL_law_891 : decode cL_law 891 = .ok (.goto 490, 3) := (dk_167 (a := 1) (b := 234) ((cL_law_at 891 (by decide)).trans (by decide +kernel)) ((cL_law_at 892 (by decide)).trans (by decide +kernel)) ((cL_law_at 893 (by decide)).trans (by decide +kernel))).trans (by decide +kernel)
theorem dL_law_894 : decode cL_law 894 = .ok (.aload_n 1, 1) := dk_43 ((cL_law_at 894 (by decide)).trans (by decide +kernel))
theorem dL_law_895 : decode cL_law 895 = .ok (.aload_n 0, 1) := dk_42 ((cL_law_at 895 (by decide)).trans (by decide +kernel))
theorem dL_law_896 : decode cL_law 896 = .ok (.iload 5, 2) := (dk_21 (a := 5) ((cL_law_at 896 (by decide)).trans (by decide +kernel)) ((cL_law_at 897 (by decide)).trans (by decide +kernel))).trans (by decide +kernel)
theorem dL_law_898 : decode cL_law 898 = .ok (.iconst 1, 1) := dk_4 ((cL_law_at 898 (by decide)).trans (by decide +kernel))
theorem dL_law_899 : decode cL_law 899 = .ok (.iadd, 1) := dk_96 ((cL_law_at 899 (by decide)).trans (by decide +kernel))
theorem dL_law_900 : decode cL_law 900 = .ok (.iaload, 1) := dk_46 ((cL_law_at 900 (by decide)).trans (by decide +kernel))
theorem dL_law_901 : decode cL_law 901 = .ok (.aload_n 0, 1) := dk_42 ((cL_law_at 901 (by decide)).trans (by decide +kernel))
theorem dL_law_902 : decode cL_law 902 = .ok (.iload 5, 2) := (dk_21 (a := 5) ((cL_law_at 902 (by decide)).trans (by decide +kernel)) ((cL_law_at 903 (by decide)).trans (by decide +kernel))).trans (by decide +kernel)
theorem dL_law_904 : decode cL_law 904 = .ok (.iconst 2, 1) := dk_5 ((cL_law_at 904 (by decide)).trans (by decide +kernel))
theorem dL_law_905 : decode cL_law 905 = .ok (.iadd, 1) := dk_96 ((cL_law_at 905 (by decide)).trans (by decide +kernel))
theorem dL_law_906 : decode cL_law 906 = .ok (.iaload, 1) := dk_46 ((cL_law_at 906 (by decide)).trans (by decide +kernel))
theorem dL_law_907 : decode cL_law 907 = .ok (.aload_n 0, 1) := dk_42 ((cL_law_at 907 (by decide)).trans (by decide +kernel))
theorem dL_law_908 : decode cL_law 908 = .ok (.iload 5, 2) := (dk_21 (a := 5) ((cL_law_at 908 (by decide)).trans (by decide +kernel)) ((cL_law_at 909 (by decide)).trans (by decide +kernel))).trans (by decide +kernel)
theorem dL_law_910 : decode cL_law 910 = .ok (.iconst 3, 1) := dk_6 ((cL_law_at 910 (by decide)).trans (by decide +kernel))
theorem dL_law_911 : decode cL_law 911 = .ok (.iadd, 1) := dk_96 ((cL_law_at 911 (by decide)).trans (by decide +kernel))
theorem dL_law_912 : decode cL_law 912 = .ok (.iaload, 1) := dk_46 ((cL_law_at 912 (by decide)).trans (by decide +kernel))
theorem dL_law_913 : decode cL_law 913 = .ok (.aload_n 3, 1) := dk_45 ((cL_law_at 913 (by decide)).trans (by decide +kernel))
theorem dL_law_914 : decode cL_law 914 = .ok (.invokestatic 201, 3) := (dk_184 (a := 0) (b := 201) ((cL_law_at 914 (by decide)).trans (by decide +kernel)) ((cL_law_at 915 (by decide)).trans (by decide +kernel)) ((cL_law_at 916 (by decide)).trans (by decide +kernel))).trans (by decide +kernel)
theorem dL_law_917 : decode cL_law 917 = .ok (.istore 6, 2) := (dk_54 (a := 6) ((cL_law_at 917 (by decide)).trans (by decide +kernel)) ((cL_law_at 918 (by decide)).trans (by decide +kernel))).trans (by decide +kernel)
theorem dL_law_919 : decode cL_law 919 = .ok (.aload_n 2, 1) := dk_44 ((cL_law_at 919 (by decide)).trans (by decide +kernel))
theorem dL_law_920 : decode cL_law 920 = .ok (.aload_n 0, 1) := dk_42 ((cL_law_at 920 (by decide)).trans (by decide +kernel))
theorem dL_law_921 : decode cL_law 921 = .ok (.iload 5, 2) := (dk_21 (a := 5) ((cL_law_at 921 (by decide)).trans (by decide +kernel)) ((cL_law_at 922 (by decide)).trans (by decide +kernel))).trans (by decide +kernel)
theorem dL_law_923 : decode cL_law 923 = .ok (.iconst 1, 1) := dk_4 ((cL_law_at 923 (by decide)).trans (by decide +kernel))
theorem dL_law_924 : decode cL_law 924 = .ok (.iadd, 1) := dk_96 ((cL_law_at 924 (by decide)).trans (by decide +kernel))
theorem dL_law_925 : decode cL_law 925 = .ok (.iaload, 1) := dk_46 ((cL_law_at 925 (by decide)).trans (by decide +kernel))
theorem dL_law_926 : decode cL_law 926 = .ok (.aload_n 0, 1) := dk_42 ((cL_law_at 926 (by decide)).trans (by decide +kernel))
theorem dL_law_927 : decode cL_law 927 = .ok (.iload 5, 2) := (dk_21 (a := 5) ((cL_law_at 927 (by decide)).trans (by decide +kernel)) ((cL_law_at 928 (by decide)).trans (by decide +kernel))).trans (by decide +kernel)
theorem dL_law_929 : decode cL_law 929 = .ok (.iconst 2, 1) := dk_5 ((cL_law_at 929 (by decide)).trans (by decide +kernel))
theorem dL_law_930 : decode cL_law 930 = .ok (.iadd, 1) := dk_96 ((cL_law_at 930 (by decide)).trans (by decide +kernel))
theorem dL_law_931 : decode cL_law 931 = .ok (.iaload, 1) := dk_46 ((cL_law_at 931 (by decide)).trans (by decide +kernel))
theorem dL_law_932 : decode cL_law 932 = .ok (.aload_n 0, 1) := dk_42 ((cL_law_at 932 (by decide)).trans (by decide +kernel))
theorem dL_law_933 : decode cL_law 933 = .ok (.iload 5, 2) := (dk_21 (a := 5) ((cL_law_at 933 (by decide)).trans (by decide +kernel)) ((cL_law_at 934 (by decide)).trans (by decide +kernel))).trans (by decide +kernel)
theorem dL_law_935 : decode cL_law 935 = .ok (.iconst 3, 1) := dk_6 ((cL_law_at 935 (by decide)).trans (by decide +kernel))
theorem dL_law_936 : decode cL_law 936 = .ok (.iadd, 1) := dk_96 ((cL_law_at 936 (by decide)).trans (by decide +kernel))
theorem dL_law_937 : decode cL_law 937 = .ok (.iaload, 1) := dk_46 ((cL_law_at 937 (by decide)).trans (by decide +kernel))
theorem dL_law_938 : decode cL_law 938 = .ok (.invokevirtual 204, 3) := (dk_182 (a := 0) (b := 204) ((cL_law_at 938 (by decide)).trans (by decide +kernel)) ((cL_law_at 939 (by decide)).trans (by decide +kernel)) ((cL_law_at 940 (by decide)).trans (by decide +kernel))).trans (by decide +kernel)
theorem dL_law_941 : decode cL_law 941 = .ok (.istore 7, 2) := (dk_54 (a := 7) ((cL_law_at 941 (by decide)).trans (by decide +kernel)) ((cL_law_at 942 (by decide)).trans (by decide +kernel))).trans (by decide +kernel)
theorem dL_law_943 : decode cL_law 943 = .ok (.goto 438, 3) := (dk_167 (a := 1) (b := 182) ((cL_law_at 943 (by decide)).trans (by decide +kernel)) ((cL_law_at 944 (by decide)).trans (by decide +kernel)) ((cL_law_at 945 (by decide)).trans (by decide +kernel))).trans (by decide +kernel)
theorem dL_law_946 : decode cL_law 946 = .ok (.aload_n 1, 1) := dk_43 ((cL_law_at 946 (by decide)).trans (by decide +kernel))
theorem dL_law_947 : decode cL_law 947 = .ok (.aload_n 0, 1) := dk_42 ((cL_law_at 947 (by decide)).trans (by decide +kernel))
theorem dL_law_948 : decode cL_law 948 = .ok (.iload 5, 2) := (dk_21 (a := 5) ((cL_law_at 948 (by decide)).trans (by decide +kernel)) ((cL_law_at 949 (by decide)).trans (by decide +kernel))).trans (by decide +kernel)
theorem dL_law_950 : decode cL_law 950 = .ok (.iconst 1, 1) := dk_4 ((cL_law_at 950 (by decide)).trans (by decide +kernel))
theorem dL_law_951 : decode cL_law 951 = .ok (.iadd, 1) := dk_96 ((cL_law_at 951 (by decide)).trans (by decide +kernel))
theorem dL_law_952 : decode cL_law 952 = .ok (.iaload, 1) := dk_46 ((cL_law_at 952 (by decide)).trans (by decide +kernel))
theorem dL_law_953 : decode cL_law 953 = .ok (.aload_n 3, 1) := dk_45 ((cL_law_at 953 (by decide)).trans (by decide +kernel))
theorem dL_law_954 : decode cL_law 954 = .ok (.invokestatic 205, 3) := (dk_184 (a := 0) (b := 205) ((cL_law_at 954 (by decide)).trans (by decide +kernel)) ((cL_law_at 955 (by decide)).trans (by decide +kernel)) ((cL_law_at 956 (by decide)).trans (by decide +kernel))).trans (by decide +kernel)
theorem dL_law_957 : decode cL_law 957 = .ok (.istore 6, 2) := (dk_54 (a := 6) ((cL_law_at 957 (by decide)).trans (by decide +kernel)) ((cL_law_at 958 (by decide)).trans (by decide +kernel))).trans (by decide +kernel)
theorem dL_law_959 : decode cL_law 959 = .ok (.aload_n 2, 1) := dk_44 ((cL_law_at 959 (by decide)).trans (by decide +kernel))
theorem dL_law_960 : decode cL_law 960 = .ok (.aload_n 0, 1) := dk_42 ((cL_law_at 960 (by decide)).trans (by decide +kernel))
theorem dL_law_961 : decode cL_law 961 = .ok (.iload 5, 2) := (dk_21 (a := 5) ((cL_law_at 961 (by decide)).trans (by decide +kernel)) ((cL_law_at 962 (by decide)).trans (by decide +kernel))).trans (by decide +kernel)
theorem dL_law_963 : decode cL_law 963 = .ok (.iconst 1, 1) := dk_4 ((cL_law_at 963 (by decide)).trans (by decide +kernel))
theorem dL_law_964 : decode cL_law 964 = .ok (.iadd, 1) := dk_96 ((cL_law_at 964 (by decide)).trans (by decide +kernel))
theorem dL_law_965 : decode cL_law 965 = .ok (.iaload, 1) := dk_46 ((cL_law_at 965 (by decide)).trans (by decide +kernel))
theorem dL_law_966 : decode cL_law 966 = .ok (.invokevirtual 207, 3) := (dk_182 (a := 0) (b := 207) ((cL_law_at 966 (by decide)).trans (by decide +kernel)) ((cL_law_at 967 (by decide)).trans (by decide +kernel)) ((cL_law_at 968 (by decide)).trans (by decide +kernel))).trans (by decide +kernel)
theorem dL_law_969 : decode cL_law 969 = .ok (.istore 7, 2) := (dk_54 (a := 7) ((cL_law_at 969 (by decide)).trans (by decide +kernel)) ((cL_law_at 970 (by decide)).trans (by decide +kernel))).trans (by decide +kernel)
theorem dL_law_971 : decode cL_law 971 = .ok (.goto 410, 3) := (dk_167 (a := 1) (b := 154) ((cL_law_at 971 (by decide)).trans (by decide +kernel)) ((cL_law_at 972 (by decide)).trans (by decide +kernel)) ((cL_law_at 973 (by decide)).trans (by decide +kernel))).trans (by decide +kernel)
theorem dL_law_974 : decode cL_law 974 = .ok (.aload_n 1, 1) := dk_43 ((cL_law_at 974 (by decide)).trans (by decide +kernel))
theorem dL_law_975 : decode cL_law 975 = .ok (.aload_n 0, 1) := dk_42 ((cL_law_at 975 (by decide)).trans (by decide +kernel))
theorem dL_law_976 : decode cL_law 976 = .ok (.iload 5, 2) := (dk_21 (a := 5) ((cL_law_at 976 (by decide)).trans (by decide +kernel)) ((cL_law_at 977 (by decide)).trans (by decide +kernel))).trans (by decide +kernel)
theorem dL_law_978 : decode cL_law 978 = .ok (.iconst 1, 1) := dk_4 ((cL_law_at 978 (by decide)).trans (by decide +kernel))
theorem dL_law_979 : decode cL_law 979 = .ok (.iadd, 1) := dk_96 ((cL_law_at 979 (by decide)).trans (by decide +kernel))
theorem dL_law_980 : decode cL_law 980 = .ok (.iaload, 1) := dk_46 ((cL_law_at 980 (by decide)).trans (by decide +kernel))
theorem dL_law_981 : decode cL_law 981 = .ok (.aload_n 3, 1) := dk_45 ((cL_law_at 981 (by decide)).trans (by decide +kernel))
theorem dL_law_982 : decode cL_law 982 = .ok (.invokestatic 208, 3) := (dk_184 (a := 0) (b := 208) ((cL_law_at 982 (by decide)).trans (by decide +kernel)) ((cL_law_at 983 (by decide)).trans (by decide +kernel)) ((cL_law_at 984 (by decide)).trans (by decide +kernel))).trans (by decide +kernel)
theorem dL_law_985 : decode cL_law 985 = .ok (.istore 6, 2) := (dk_54 (a := 6) ((cL_law_at 985 (by decide)).trans (by decide +kernel)) ((cL_law_at 986 (by decide)).trans (by decide +kernel))).trans (by decide +kernel)
theorem dL_law_987 : decode cL_law 987 = .ok (.aload_n 2, 1) := dk_44 ((cL_law_at 987 (by decide)).trans (by decide +kernel))
theorem dL_law_988 : decode cL_law 988 = .ok (.aload_n 0, 1) := dk_42 ((cL_law_at 988 (by decide)).trans (by decide +kernel))
theorem dL_law_989 : decode cL_law 989 = .ok (.iload 5, 2) := (dk_21 (a := 5) ((cL_law_at 989 (by decide)).trans (by decide +kernel)) ((cL_law_at 990 (by decide)).trans (by decide +kernel))).trans (by decide +kernel)
theorem dL_law_991 : decode cL_law 991 = .ok (.iconst 1, 1) := dk_4 ((cL_law_at 991 (by decide)).trans (by decide +kernel))
theorem dL_law_992 : decode cL_law 992 = .ok (.iadd, 1) := dk_96 ((cL_law_at 992 (by decide)).trans (by decide +kernel))
theorem dL_law_993 : decode cL_law 993 = .ok (.iaload, 1) := dk_46 ((cL_law_at 993 (by decide)).trans (by decide +kernel))
theorem dL_law_994 : decode cL_law 994 = .ok (.invokevirtual 210, 3) := (dk_182 (a := 0) (b := 210) ((cL_law_at 994 (by decide)).trans (by decide +kernel)) ((cL_law_at 995 (by decide)).trans (by decide +kernel)) ((cL_law_at 996 (by decide)).trans (by decide +kernel))).trans (by decide +kernel)
theorem dL_law_997 : decode cL_law 997 = .ok (.istore 7, 2) := (dk_54 (a := 7) ((cL_law_at 997 (by decide)).trans (by decide +kernel)) ((cL_law_at 998 (by decide)).trans (by decide +kernel))).trans (by decide +kernel)
theorem dL_law_999 : decode cL_law 999 = .ok (.goto 382, 3) := (dk_167 (a := 1) (b := 126) ((cL_law_at 999 (by decide)).trans (by decide +kernel)) ((cL_law_at 1000 (by decide)).trans (by decide +kernel)) ((cL_law_at 1001 (by decide)).trans (by decide +kernel))).trans (by decide +kernel)
theorem dL_law_1002 : decode cL_law 1002 = .ok (.aload_n 1, 1) := dk_43 ((cL_law_at 1002 (by decide)).trans (by decide +kernel))
theorem dL_law_1003 : decode cL_law 1003 = .ok (.aload_n 0, 1) := dk_42 ((cL_law_at 1003 (by decide)).trans (by decide +kernel))
theorem dL_law_1004 : decode cL_law 1004 = .ok (.iload 5, 2) := (dk_21 (a := 5) ((cL_law_at 1004 (by decide)).trans (by decide +kernel)) ((cL_law_at 1005 (by decide)).trans (by decide +kernel))).trans (by decide +kernel)
theorem dL_law_1006 : decode cL_law 1006 = .ok (.iconst 1, 1) := dk_4 ((cL_law_at 1006 (by decide)).trans (by decide +kernel))
theorem dL_law_1007 : decode cL_law 1007 = .ok (.iadd, 1) := dk_96 ((cL_law_at 1007 (by decide)).trans (by decide +kernel))
theorem dL_law_1008 : decode cL_law 1008 = .ok (.iaload, 1) := dk_46 ((cL_law_at 1008 (by decide)).trans (by decide +kernel))
theorem dL_law_1009 : decode cL_law 1009 = .ok (.aload_n 3, 1) := dk_45 ((cL_law_at 1009 (by decide)).trans (by decide +kernel))
theorem dL_law_1010 : decode cL_law 1010 = .ok (.invokestatic 211, 3) := (dk_184 (a := 0) (b := 211) ((cL_law_at 1010 (by decide)).trans (by decide +kernel)) ((cL_law_at 1011 (by decide)).trans (by decide +kernel)) ((cL_law_at 1012 (by decide)).trans (by decide +kernel))).trans (by decide +kernel)
theorem dL_law_1013 : decode cL_law 1013 = .ok (.istore 6, 2) := (dk_54 (a := 6) ((cL_law_at 1013 (by decide)).trans (by decide +kernel)) ((cL_law_at 1014 (by decide)).trans (by decide +kernel))).trans (by decide +kernel)
theorem dL_law_1015 : decode cL_law 1015 = .ok (.aload_n 2, 1) := dk_44 ((cL_law_at 1015 (by decide)).trans (by decide +kernel))
theorem dL_law_1016 : decode cL_law 1016 = .ok (.aload_n 0, 1) := dk_42 ((cL_law_at 1016 (by decide)).trans (by decide +kernel))
theorem dL_law_1017 : decode cL_law 1017 = .ok (.iload 5, 2) := (dk_21 (a := 5) ((cL_law_at 1017 (by decide)).trans (by decide +kernel)) ((cL_law_at 1018 (by decide)).trans (by decide +kernel))).trans (by decide +kernel)
theorem dL_law_1019 : decode cL_law 1019 = .ok (.iconst 1, 1) := dk_4 ((cL_law_at 1019 (by decide)).trans (by decide +kernel))
theorem dL_law_1020 : decode cL_law 1020 = .ok (.iadd, 1) := dk_96 ((cL_law_at 1020 (by decide)).trans (by decide +kernel))
theorem dL_law_1021 : decode cL_law 1021 = .ok (.iaload, 1) := dk_46 ((cL_law_at 1021 (by decide)).trans (by decide +kernel))
theorem dL_law_1022 : decode cL_law 1022 = .ok (.invokevirtual 213, 3) := (dk_182 (a := 0) (b := 213) ((cL_law_at 1022 (by decide)).trans (by decide +kernel)) ((cL_law_at 1023 (by decide)).trans (by decide +kernel)) ((cL_law_at 1024 (by decide)).trans (by decide +kernel))).trans (by decide +kernel)
theorem dL_law_1025 : decode cL_law 1025 = .ok (.istore 7, 2) := (dk_54 (a := 7) ((cL_law_at 1025 (by decide)).trans (by decide +kernel)) ((cL_law_at 1026 (by decide)).trans (by decide +kernel))).trans (by decide +kernel)
theorem dL_law_1027 : decode cL_law 1027 = .ok (.goto 354, 3) := (dk_167 (a := 1) (b := 98) ((cL_law_at 1027 (by decide)).trans (by decide +kernel)) ((cL_law_at 1028 (by decide)).trans (by decide +kernel)) ((cL_law_at 1029 (by decide)).trans (by decide +kernel))).trans (by decide +kernel)
theorem dL_law_1030 : decode cL_law 1030 = .ok (.aload_n 1, 1) := dk_43 ((cL_law_at 1030 (by decide)).trans (by decide +kernel))
theorem dL_law_1031 : decode cL_law 1031 = .ok (.aload_n 0, 1) := dk_42 ((cL_law_at 1031 (by decide)).trans (by decide +kernel))
theorem dL_law_1032 : decode cL_law 1032 = .ok (.iload 5, 2) := (dk_21 (a := 5) ((cL_law_at 1032 (by decide)).trans (by decide +kernel)) ((cL_law_at 1033 (by decide)).trans (by decide +kernel))).trans (by decide +kernel)
theorem dL_law_1034 : decode cL_law 1034 = .ok (.iconst 1, 1) := dk_4 ((cL_law_at 1034 (by decide)).trans (by decide +kernel))
theorem dL_law_1035 : decode cL_law 1035 = .ok (.iadd, 1) := dk_96 ((cL_law_at 1035 (by decide)).trans (by decide +kernel))
theorem dL_law_1036 : decode cL_law 1036 = .ok (.iaload, 1) := dk_46 ((cL_law_at 1036 (by decide)).trans (by decide +kernel))
theorem dL_law_1037 : decode cL_law 1037 = .ok (.aload_n 3, 1) := dk_45 ((cL_law_at 1037 (by decide)).trans (by decide +kernel))
theorem dL_law_1038 : decode cL_law 1038 = .ok (.invokestatic 214, 3) := (dk_184 (a := 0) (b := 214) ((cL_law_at 1038 (by decide)).trans (by decide +kernel)) ((cL_law_at 1039 (by decide)).trans (by decide +kernel)) ((cL_law_at 1040 (by decide)).trans (by decide +kernel))).trans (by decide +kernel)
theorem dL_law_1041 : decode cL_law 1041 = .ok (.istore 6, 2) := (dk_54 (a := 6) ((cL_law_at 1041 (by decide)).trans (by decide +kernel)) ((cL_law_at 1042 (by decide)).trans (by decide +kernel))).trans (by decide +kernel)
theorem dL_law_1043 : decode cL_law 1043 = .ok (.aload_n 2, 1) := dk_44 ((cL_law_at 1043 (by decide)).trans (by decide +kernel))
theorem dL_law_1044 : decode cL_law 1044 = .ok (.aload_n 0, 1) := dk_42 ((cL_law_at 1044 (by decide)).trans (by decide +kernel))
theorem dL_law_1045 : decode cL_law 1045 = .ok (.iload 5, 2) := (dk_21 (a := 5) ((cL_law_at 1045 (by decide)).trans (by decide +kernel)) ((cL_law_at 1046 (by decide)).trans (by decide +kernel))).trans (by decide +kernel)
theorem dL_law_1047 : decode cL_law 1047 = .ok (.iconst 1, 1) := dk_4 ((cL_law_at 1047 (by decide)).trans (by decide +kernel))
theorem dL_law_1048 : decode cL_law 1048 = .ok (.iadd, 1) := dk_96 ((cL_law_at 1048 (by decide)).trans (by decide +kernel))
theorem dL_law_1049 : decode cL_law 1049 = .ok (.iaload, 1) := dk_46 ((cL_law_at 1049 (by decide)).trans (by decide +kernel))
theorem dL_law_1050 : decode cL_law 1050 = .ok (.invokevirtual 216, 3) := (dk_182 (a := 0) (b := 216) ((cL_law_at 1050 (by decide)).trans (by decide +kernel)) ((cL_law_at 1051 (by decide)).trans (by decide +kernel)) ((cL_law_at 1052 (by decide)).trans (by decide +kernel))).trans (by decide +kernel)
theorem dL_law_1053 : decode cL_law 1053 = .ok (.istore 7, 2) := (dk_54 (a := 7) ((cL_law_at 1053 (by decide)).trans (by decide +kernel)) ((cL_law_at 1054 (by decide)).trans (by decide +kernel))).trans (by decide +kernel)
theorem dL_law_1055 : decode cL_law 1055 = .ok (.goto 326, 3) := (dk_167 (a := 1) (b := 70) ((cL_law_at 1055 (by decide)).trans (by decide +kernel)) ((cL_law_at 1056 (by decide)).trans (by decide +kernel)) ((cL_law_at 1057 (by decide)).trans (by decide +kernel))).trans (by decide +kernel)
theorem dL_law_1058 : decode cL_law 1058 = .ok (.aload_n 1, 1) := dk_43 ((cL_law_at 1058 (by decide)).trans (by decide +kernel))
theorem dL_law_1059 : decode cL_law 1059 = .ok (.aload_n 0, 1) := dk_42 ((cL_law_at 1059 (by decide)).trans (by decide +kernel))
theorem dL_law_1060 : decode cL_law 1060 = .ok (.iload 5, 2) := (dk_21 (a := 5) ((cL_law_at 1060 (by decide)).trans (by decide +kernel)) ((cL_law_at 1061 (by decide)).trans (by decide +kernel))).trans (by decide +kernel)
theorem dL_law_1062 : decode cL_law 1062 = .ok (.iconst 1, 1) := dk_4 ((cL_law_at 1062 (by decide)).trans (by decide +kernel))
theorem dL_law_1063 : decode cL_law 1063 = .ok (.iadd, 1) := dk_96 ((cL_law_at 1063 (by decide)).trans (by decide +kernel))
theorem dL_law_1064 : decode cL_law 1064 = .ok (.iaload, 1) := dk_46 ((cL_law_at 1064 (by decide)).trans (by decide +kernel))
theorem dL_law_1065 : decode cL_law 1065 = .ok (.aload_n 3, 1) := dk_45 ((cL_law_at 1065 (by decide)).trans (by decide +kernel))
theorem dL_law_1066 : decode cL_law 1066 = .ok (.invokestatic 217, 3) := (dk_184 (a := 0) (b := 217) ((cL_law_at 1066 (by decide)).trans (by decide +kernel)) ((cL_law_at 1067 (by decide)).trans (by decide +kernel)) ((cL_law_at 1068 (by decide)).trans (by decide +kernel))).trans (by decide +kernel)
theorem dL_law_1069 : decode cL_law 1069 = .ok (.istore 6, 2) := (dk_54 (a := 6) ((cL_law_at 1069 (by decide)).trans (by decide +kernel)) ((cL_law_at 1070 (by decide)).trans (by decide +kernel))).trans (by decide +kernel)
theorem dL_law_1071 : decode cL_law 1071 = .ok (.aload_n 2, 1) := dk_44 ((cL_law_at 1071 (by decide)).trans (by decide +kernel))
theorem dL_law_1072 : decode cL_law 1072 = .ok (.aload_n 0, 1) := dk_42 ((cL_law_at 1072 (by decide)).trans (by decide +kernel))
theorem dL_law_1073 : decode cL_law 1073 = .ok (.iload 5, 2) := (dk_21 (a := 5) ((cL_law_at 1073 (by decide)).trans (by decide +kernel)) ((cL_law_at 1074 (by decide)).trans (by decide +kernel))).trans (by decide +kernel)
theorem dL_law_1075 : decode cL_law 1075 = .ok (.iconst 1, 1) := dk_4 ((cL_law_at 1075 (by decide)).trans (by decide +kernel))
theorem dL_law_1076 : decode cL_law 1076 = .ok (.iadd, 1) := dk_96 ((cL_law_at 1076 (by decide)).trans (by decide +kernel))
theorem dL_law_1077 : decode cL_law 1077 = .ok (.iaload, 1) := dk_46 ((cL_law_at 1077 (by decide)).trans (by decide +kernel))
theorem dL_law_1078 : decode cL_law 1078 = .ok (.invokevirtual 219, 3) := (dk_182 (a := 0) (b := 219) ((cL_law_at 1078 (by decide)).trans (by decide +kernel)) ((cL_law_at 1079 (by decide)).trans (by decide +kernel)) ((cL_law_at 1080 (by decide)).trans (by decide +kernel))).trans (by decide +kernel)
theorem dL_law_1081 : decode cL_law 1081 = .ok (.istore 7, 2) := (dk_54 (a := 7) ((cL_law_at 1081 (by decide)).trans (by decide +kernel)) ((cL_law_at 1082 (by decide)).trans (by decide +kernel))).trans (by decide +kernel)
theorem dL_law_1083 : decode cL_law 1083 = .ok (.goto 298, 3) := (dk_167 (a := 1) (b := 42) ((cL_law_at 1083 (by decide)).trans (by decide +kernel)) ((cL_law_at 1084 (by decide)).trans (by decide +kernel)) ((cL_law_at 1085 (by decide)).trans (by decide +kernel))).trans (by decide +kernel)
theorem dL_law_1086 : decode cL_law 1086 = .ok (.aload_n 1, 1) := dk_43 ((cL_law_at 1086 (by decide)).trans (by decide +kernel))
theorem dL_law_1087 : decode cL_law 1087 = .ok (.aload_n 0, 1) := dk_42 ((cL_law_at 1087 (by decide)).trans (by decide +kernel))
theorem dL_law_1088 : decode cL_law 1088 = .ok (.iload 5, 2) := (dk_21 (a := 5) ((cL_law_at 1088 (by decide)).trans (by decide +kernel)) ((cL_law_at 1089 (by decide)).trans (by decide +kernel))).trans (by decide +kernel)
theorem dL_law_1090 : decode cL_law 1090 = .ok (.iconst 1, 1) := dk_4 ((cL_law_at 1090 (by decide)).trans (by decide +kernel))
theorem dL_law_1091 : decode cL_law 1091 = .ok (.iadd, 1) := dk_96 ((cL_law_at 1091 (by decide)).trans (by decide +kernel))
theorem dL_law_1092 : decode cL_law 1092 = .ok (.iaload, 1) := dk_46 ((cL_law_at 1092 (by decide)).trans (by decide +kernel))
theorem dL_law_1093 : decode cL_law 1093 = .ok (.aload_n 3, 1) := dk_45 ((cL_law_at 1093 (by decide)).trans (by decide +kernel))
theorem dL_law_1094 : decode cL_law 1094 = .ok (.invokestatic 220, 3) := (dk_184 (a := 0) (b := 220) ((cL_law_at 1094 (by decide)).trans (by decide +kernel)) ((cL_law_at 1095 (by decide)).trans (by decide +kernel)) ((cL_law_at 1096 (by decide)).trans (by decide +kernel))).trans (by decide +kernel)
theorem dL_law_1097 : decode cL_law 1097 = .ok (.istore 6, 2) := (dk_54 (a := 6) ((cL_law_at 1097 (by decide)).trans (by decide +kernel)) ((cL_law_at 1098 (by decide)).trans (by decide +kernel))).trans (by decide +kernel)
theorem dL_law_1099 : decode cL_law 1099 = .ok (.aload_n 2, 1) := dk_44 ((cL_law_at 1099 (by decide)).trans (by decide +kernel))
theorem dL_law_1100 : decode cL_law 1100 = .ok (.aload_n 0, 1) := dk_42 ((cL_law_at 1100 (by decide)).trans (by decide +kernel))
theorem dL_law_1101 : decode cL_law 1101 = .ok (.iload 5, 2) := (dk_21 (a := 5) ((cL_law_at 1101 (by decide)).trans (by decide +kernel)) ((cL_law_at 1102 (by decide)).trans (by decide +kernel))).trans (by decide +kernel)
theorem dL_law_1103 : decode cL_law 1103 = .ok (.iconst 1, 1) := dk_4 ((cL_law_at 1103 (by decide)).trans (by decide +kernel))
theorem dL_law_1104 : decode cL_law 1104 = .ok (.iadd, 1) := dk_96 ((cL_law_at 1104 (by decide)).trans (by decide +kernel))
theorem dL_law_1105 : decode cL_law 1105 = .ok (.iaload, 1) := dk_46 ((cL_law_at 1105 (by decide)).trans (by decide +kernel))
theorem dL_law_1106 : decode cL_law 1106 = .ok (.invokevirtual 222, 3) := (dk_182 (a := 0) (b := 222) ((cL_law_at 1106 (by decide)).trans (by decide +kernel)) ((cL_law_at 1107 (by decide)).trans (by decide +kernel)) ((cL_law_at 1108 (by decide)).trans (by decide +kernel))).trans (by decide +kernel)
theorem dL_law_1109 : decode cL_law 1109 = .ok (.istore 7, 2) := (dk_54 (a := 7) ((cL_law_at 1109 (by decide)).trans (by decide +kernel)) ((cL_law_at 1110 (by decide)).trans (by decide +kernel))).trans (by decide +kernel)
theorem dL_law_1111 : decode cL_law 1111 = .ok (.goto 270, 3) := (dk_167 (a := 1) (b := 14) ((cL_law_at 1111 (by decide)).trans (by decide +kernel)) ((cL_law_at 1112 (by decide)).trans (by decide +kernel)) ((cL_law_at 1113 (by decide)).trans (by decide +kernel))).trans (by decide +kernel)
theorem dL_law_1114 : decode cL_law 1114 = .ok (.aload_n 1, 1) := dk_43 ((cL_law_at 1114 (by decide)).trans (by decide +kernel))
theorem dL_law_1115 : decode cL_law 1115 = .ok (.aload_n 0, 1) := dk_42 ((cL_law_at 1115 (by decide)).trans (by decide +kernel))
theorem dL_law_1116 : decode cL_law 1116 = .ok (.iload 5, 2) := (dk_21 (a := 5) ((cL_law_at 1116 (by decide)).trans (by decide +kernel)) ((cL_law_at 1117 (by decide)).trans (by decide +kernel))).trans (by decide +kernel)
theorem dL_law_1118 : decode cL_law 1118 = .ok (.iconst 1, 1) := dk_4 ((cL_law_at 1118 (by decide)).trans (by decide +kernel))
theorem dL_law_1119 : decode cL_law 1119 = .ok (.iadd, 1) := dk_96 ((cL_law_at 1119 (by decide)).trans (by decide +kernel))
theorem dL_law_1120 : decode cL_law 1120 = .ok (.iaload, 1) := dk_46 ((cL_law_at 1120 (by decide)).trans (by decide +kernel))
theorem dL_law_1121 : decode cL_law 1121 = .ok (.aload_n 0, 1) := dk_42 ((cL_law_at 1121 (by decide)).trans (by decide +kernel))
theorem dL_law_1122 : decode cL_law 1122 = .ok (.iload 5, 2) := (dk_21 (a := 5) ((cL_law_at 1122 (by decide)).trans (by decide +kernel)) ((cL_law_at 1123 (by decide)).trans (by decide +kernel))).trans (by decide +kernel)
theorem dL_law_1124 : decode cL_law 1124 = .ok (.iconst 2, 1) := dk_5 ((cL_law_at 1124 (by decide)).trans (by decide +kernel))
theorem dL_law_1125 : decode cL_law 1125 = .ok (.iadd, 1) := dk_96 ((cL_law_at 1125 (by decide)).trans (by decide +kernel))
theorem dL_law_1126 : decode cL_law 1126 = .ok (.iaload, 1) := dk_46 ((cL_law_at 1126 (by decide)).trans (by decide +kernel))
theorem dL_law_1127 : decode cL_law 1127 = .ok (.i2c, 1) := dk_146 ((cL_law_at 1127 (by decide)).trans (by decide +kernel))
theorem dL_law_1128 : decode cL_law 1128 = .ok (.aload_n 3, 1) := dk_45 ((cL_law_at 1128 (by decide)).trans (by decide +kernel))
theorem dL_law_1129 : decode cL_law 1129 = .ok (.invokestatic 223, 3) := (dk_184 (a := 0) (b := 223) ((cL_law_at 1129 (by decide)).trans (by decide +kernel)) ((cL_law_at 1130 (by decide)).trans (by decide +kernel)) ((cL_law_at 1131 (by decide)).trans (by decide +kernel))).trans (by decide +kernel)
theorem dL_law_1132 : decode cL_law 1132 = .ok (.istore 6, 2) := (dk_54 (a := 6) ((cL_law_at 1132 (by decide)).trans (by decide +kernel)) ((cL_law_at 1133 (by decide)).trans (by decide +kernel))).trans (by decide +kernel)
theorem dL_law_1134 : decode cL_law 1134 = .ok (.aload_n 2, 1) := dk_44 ((cL_law_at 1134 (by decide)).trans (by decide +kernel))
theorem dL_law_1135 : decode cL_law 1135 = .ok (.aload_n 0, 1) := dk_42 ((cL_law_at 1135 (by decide)).trans (by decide +kernel))
theorem dL_law_1136 : decode cL_law 1136 = .ok (.iload 5, 2) := (dk_21 (a := 5) ((cL_law_at 1136 (by decide)).trans (by decide +kernel)) ((cL_law_at 1137 (by decide)).trans (by decide +kernel))).trans (by decide +kernel)
theorem dL_law_1138 : decode cL_law 1138 = .ok (.iconst 1, 1) := dk_4 ((cL_law_at 1138 (by decide)).trans (by decide +kernel))
theorem dL_law_1139 : decode cL_law 1139 = .ok (.iadd, 1) := dk_96 ((cL_law_at 1139 (by decide)).trans (by decide +kernel))
theorem dL_law_1140 : decode cL_law 1140 = .ok (.iaload, 1) := dk_46 ((cL_law_at 1140 (by decide)).trans (by decide +kernel))
theorem dL_law_1141 : decode cL_law 1141 = .ok (.aload_n 0, 1) := dk_42 ((cL_law_at 1141 (by decide)).trans (by decide +kernel))
theorem dL_law_1142 : decode cL_law 1142 = .ok (.iload 5, 2) := (dk_21 (a := 5) ((cL_law_at 1142 (by decide)).trans (by decide +kernel)) ((cL_law_at 1143 (by decide)).trans (by decide +kernel))).trans (by decide +kernel)
theorem dL_law_1144 : decode cL_law 1144 = .ok (.iconst 2, 1) := dk_5 ((cL_law_at 1144 (by decide)).trans (by decide +kernel))
theorem dL_law_1145 : decode cL_law 1145 = .ok (.iadd, 1) := dk_96 ((cL_law_at 1145 (by decide)).trans (by decide +kernel))
theorem dL_law_1146 : decode cL_law 1146 = .ok (.iaload, 1) := dk_46 ((cL_law_at 1146 (by decide)).trans (by decide +kernel))
theorem dL_law_1147 : decode cL_law 1147 = .ok (.i2c, 1) := dk_146 ((cL_law_at 1147 (by decide)).trans (by decide +kernel))
theorem dL_law_1148 : decode cL_law 1148 = .ok (.invokevirtual 226, 3) := (dk_182 (a := 0) (b := 226) ((cL_law_at 1148 (by decide)).trans (by decide +kernel)) ((cL_law_at 1149 (by decide)).trans (by decide +kernel)) ((cL_law_at 1150 (by decide)).trans (by decide +kernel))).trans (by decide +kernel)
theorem dL_law_1151 : decode cL_law 1151 = .ok (.istore 7, 2) := (dk_54 (a := 7) ((cL_law_at 1151 (by decide)).trans (by decide +kernel)) ((cL_law_at 1152 (by decide)).trans (by decide +kernel))).trans (by decide +kernel)
theorem dL_law_1153 : decode cL_law 1153 = .ok (.goto 228, 3) := (dk_167 (a := 0) (b := 228) ((cL_law_at 1153 (by decide)).trans (by decide +kernel)) ((cL_law_at 1154 (by decide)).trans (by decide +kernel)) ((cL_law_at 1155 (by decide)).trans (by decide +kernel))).trans (by decide +kernel)
theorem dL_law_1156 : decode cL_law 1156 = .ok (.aload_n 1, 1) := dk_43 ((cL_law_at 1156 (by decide)).trans (by decide +kernel))
theorem dL_law_1157 : decode cL_law 1157 = .ok (.aload_n 0, 1) := dk_42 ((cL_law_at 1157 (by decide)).trans (by decide +kernel))
theorem dL_law_1158 : decode cL_law 1158 = .ok (.iload 5, 2) := (dk_21 (a := 5) ((cL_law_at 1158 (by decide)).trans (by decide +kernel)) ((cL_law_at 1159 (by decide)).trans (by decide +kernel))).trans (by decide +kernel)
theorem dL_law_1160 : decode cL_law 1160 = .ok (.iconst 1, 1) := dk_4 ((cL_law_at 1160 (by decide)).trans (by decide +kernel))
theorem dL_law_1161 : decode cL_law 1161 = .ok (.iadd, 1) := dk_96 ((cL_law_at 1161 (by decide)).trans (by decide +kernel))
theorem dL_law_1162 : decode cL_law 1162 = .ok (.iaload, 1) := dk_46 ((cL_law_at 1162 (by decide)).trans (by decide +kernel))
theorem dL_law_1163 : decode cL_law 1163 = .ok (.i2c, 1) := dk_146 ((cL_law_at 1163 (by decide)).trans (by decide +kernel))
theorem dL_law_1164 : decode cL_law 1164 = .ok (.aload_n 0, 1) := dk_42 ((cL_law_at 1164 (by decide)).trans (by decide +kernel))
theorem dL_law_1165 : decode cL_law 1165 = .ok (.iload 5, 2) := (dk_21 (a := 5) ((cL_law_at 1165 (by decide)).trans (by decide +kernel)) ((cL_law_at 1166 (by decide)).trans (by decide +kernel))).trans (by decide +kernel)
theorem dL_law_1167 : decode cL_law 1167 = .ok (.iconst 2, 1) := dk_5 ((cL_law_at 1167 (by decide)).trans (by decide +kernel))
theorem dL_law_1168 : decode cL_law 1168 = .ok (.iadd, 1) := dk_96 ((cL_law_at 1168 (by decide)).trans (by decide +kernel))
theorem dL_law_1169 : decode cL_law 1169 = .ok (.iaload, 1) := dk_46 ((cL_law_at 1169 (by decide)).trans (by decide +kernel))
theorem dL_law_1170 : decode cL_law 1170 = .ok (.i2c, 1) := dk_146 ((cL_law_at 1170 (by decide)).trans (by decide +kernel))
theorem dL_law_1171 : decode cL_law 1171 = .ok (.aload_n 0, 1) := dk_42 ((cL_law_at 1171 (by decide)).trans (by decide +kernel))
theorem dL_law_1172 : decode cL_law 1172 = .ok (.iload 5, 2) := (dk_21 (a := 5) ((cL_law_at 1172 (by decide)).trans (by decide +kernel)) ((cL_law_at 1173 (by decide)).trans (by decide +kernel))).trans (by decide +kernel)
theorem dL_law_1174 : decode cL_law 1174 = .ok (.iconst 3, 1) := dk_6 ((cL_law_at 1174 (by decide)).trans (by decide +kernel))
theorem dL_law_1175 : decode cL_law 1175 = .ok (.iadd, 1) := dk_96 ((cL_law_at 1175 (by decide)).trans (by decide +kernel))
theorem dL_law_1176 : decode cL_law 1176 = .ok (.iaload, 1) := dk_46 ((cL_law_at 1176 (by decide)).trans (by decide +kernel))
theorem dL_law_1177 : decode cL_law 1177 = .ok (.aload_n 3, 1) := dk_45 ((cL_law_at 1177 (by decide)).trans (by decide +kernel))
theorem dL_law_1178 : decode cL_law 1178 = .ok (.invokestatic 227, 3) := (dk_184 (a := 0) (b := 227) ((cL_law_at 1178 (by decide)).trans (by decide +kernel)) ((cL_law_at 1179 (by decide)).trans (by decide +kernel)) ((cL_law_at 1180 (by decide)).trans (by decide +kernel))).trans (by decide +kernel)
theorem dL_law_1181 : decode cL_law 1181 = .ok (.istore 6, 2) := (dk_54 (a := 6) ((cL_law_at 1181 (by decide)).trans (by decide +kernel)) ((cL_law_at 1182 (by decide)).trans (by decide +kernel))).trans (by decide +kernel)
theorem dL_law_1183 : decode cL_law 1183 = .ok (.aload_n 2, 1) := dk_44 ((cL_law_at 1183 (by decide)).trans (by decide +kernel))
theorem dL_law_1184 : decode cL_law 1184 = .ok (.aload_n 0, 1) := dk_42 ((cL_law_at 1184 (by decide)).trans (by decide +kernel))
theorem dL_law_1185 : decode cL_law 1185 = .ok (.iload 5, 2) := (dk_21 (a := 5) ((cL_law_at 1185 (by decide)).trans (by decide +kernel)) ((cL_law_at 1186 (by decide)).trans (by decide +kernel))).trans (by decide +kernel)
theorem dL_law_1187 : decode cL_law 1187 = .ok (.iconst 1, 1) := dk_4 ((cL_law_at 1187 (by decide)).trans (by decide +kernel))
theorem dL_law_1188 : decode cL_law 1188 = .ok (.iadd, 1) := dk_96 ((cL_law_at 1188 (by decide)).trans (by decide +kernel))
theorem dL_law_1189 : decode cL_law 1189 = .ok (.iaload, 1) := dk_46 ((cL_law_at 1189 (by decide)).trans (by decide +kernel))
theorem dL_law_1190 : decode cL_law 1190 = .ok (.i2c, 1) := dk_146 ((cL_law_at 1190 (by decide)).trans (by decide +kernel))
theorem dL_law_1191 : decode cL_law 1191 = .ok (.aload_n 0, 1) := dk_42 ((cL_law_at 1191 (by decide)).trans (by decide +kernel))
theorem dL_law_1192 : decode cL_law 1192 = .ok (.iload 5, 2) := (dk_21 (a := 5) ((cL_law_at 1192 (by decide)).trans (by decide +kernel)) ((cL_law_at 1193 (by decide)).trans (by decide +kernel))).trans (by decide +kernel)
theorem dL_law_1194 : decode cL_law 1194 = .ok (.iconst 2, 1) := dk_5 ((cL_law_at 1194 (by decide)).trans (by decide +kernel))
theorem dL_law_1195 : decode cL_law 1195 = .ok (.iadd, 1) := dk_96 ((cL_law_at 1195 (by decide)).trans (by decide +kernel))
theorem dL_law_1196 : decode cL_law 1196 = .ok (.iaload, 1) := dk_46 ((cL_law_at 1196 (by decide)).trans (by decide +kernel))
theorem dL_law_1197 : decode cL_law 1197 = .ok (.i2c, 1) := dk_146 ((cL_law_at 1197 (by decide)).trans (by decide +kernel))
theorem dL_law_1198 : decode cL_law 1198 = .ok (.aload_n 0, 1) := dk_42 ((cL_law_at 1198 (by decide)).trans (by decide +kernel))
theorem dL_law_1199 : decode cL_law 1199 = .ok (.iload 5, 2) := (dk_21 (a := 5) ((cL_law_at 1199 (by decide)).trans (by decide +kernel)) ((cL_law_at 1200 (by decide)).trans (by decide +kernel))).trans (by decide +kernel)
theorem dL_law_1201 : decode cL_law 1201 = .ok (.iconst 3, 1) := dk_6 ((cL_law_at 1201 (by decide)).trans (by decide +kernel))
theorem dL_law_1202 : decode cL_law 1202 = .ok (.iadd, 1) := dk_96 ((cL_law_at 1202 (by decide)).trans (by decide +kernel))
theorem dL_law_1203 : decode cL_law 1203 = .ok (.iaload, 1) := dk_46 ((cL_law_at 1203 (by decide)).trans (by decide +kernel))
theorem dL_law_1204 : decode cL_law 1204 = .ok (.invokevirtual 230, 3) := (dk_182 (a := 0) (b := 230) ((cL_law_at 1204 (by decide)).trans (by decide +kernel)) ((cL_law_at 1205 (by decide)).trans (by decide +kernel)) ((cL_law_at 1206 (by decide)).trans (by decide +kernel))).trans (by decide +kernel)
theorem dL_law_1207 : decode cL_law 1207 = .ok (.istore 7, 2) := (dk_54 (a := 7) ((cL_law_at 1207 (by decide)).trans (by decide +kernel)) ((cL_law_at 1208 (by decide)).trans (by decide +kernel))).trans (by decide +kernel)
theorem dL_law_1209 : decode cL_law 1209 = .ok (.goto 172, 3) := (dk_167 (a := 0) (b := 172) ((cL_law_at 1209 (by decide)).trans (by decide +kernel)) ((cL_law_at 1210 (by decide)).trans (by decide +kernel)) ((cL_law_at 1211 (by decide)).trans (by decide +kernel))).trans (by decide +kernel)
theorem dL_law_1212 : decode cL_law 1212 = .ok (.aload_n 1, 1) := dk_43 ((cL_law_at 1212 (by decide)).trans (by decide +kernel))
theorem dL_law_1213 : decode cL_law 1213 = .ok (.aload_n 0, 1) := dk_42 ((cL_law_at 1213 (by decide)).trans (by decide +kernel))
theorem dL_law_1214 : decode cL_law 1214 = .ok (.iload 5, 2) := (dk_21 (a := 5) ((cL_law_at 1214 (by decide)).trans (by decide +kernel)) ((cL_law_at 1215 (by decide)).trans (by decide +kernel))).trans (by decide +kernel)
theorem dL_law_1216 : decode cL_law 1216 = .ok (.iconst 1, 1) := dk_4 ((cL_law_at 1216 (by decide)).trans (by decide +kernel))
theorem dL_law_1217 : decode cL_law 1217 = .ok (.iadd, 1) := dk_96 ((cL_law_at 1217 (by decide)).trans (by decide +kernel))
theorem dL_law_1218 : decode cL_law 1218 = .ok (.iaload, 1) := dk_46 ((cL_law_at 1218 (by decide)).trans (by decide +kernel))
theorem dL_law_1219 : decode cL_law 1219 = .ok (.aload_n 0, 1) := dk_42 ((cL_law_at 1219 (by decide)).trans (by decide +kernel))
theorem dL_law_1220 : decode cL_law 1220 = .ok (.iload 5, 2) := (dk_21 (a := 5) ((cL_law_at 1220 (by decide)).trans (by decide +kernel)) ((cL_law_at 1221 (by decide)).trans (by decide +kernel))).trans (by decide +kernel)
theorem dL_law_1222 : decode cL_law 1222 = .ok (.iconst 2, 1) := dk_5 ((cL_law_at 1222 (by decide)).trans (by decide +kernel))
theorem dL_law_1223 : decode cL_law 1223 = .ok (.iadd, 1) := dk_96 ((cL_law_at 1223 (by decide)).trans (by decide +kernel))
theorem dL_law_1224 : decode cL_law 1224 = .ok (.iaload, 1) := dk_46 ((cL_law_at 1224 (by decide)).trans (by decide +kernel))
theorem dL_law_1225 : decode cL_law 1225 = .ok (.aload_n 3, 1) := dk_45 ((cL_law_at 1225 (by decide)).trans (by decide +kernel))
theorem dL_law_1226 : decode cL_law 1226 = .ok (.invokestatic 231, 3) := (dk_184 (a := 0) (b := 231) ((cL_law_at 1226 (by decide)).trans (by decide +kernel)) ((cL_law_at 1227 (by decide)).trans (by decide +kernel)) ((cL_law_at 1228 (by decide)).trans (by decide +kernel))).trans (by decide +kernel)
theorem dL_law_1229 : decode cL_law 1229 = .ok (.istore 6, 2) := (dk_54 (a := 6) ((cL_law_at 1229 (by decide)).trans (by decide +kernel)) ((cL_law_at 1230 (by decide)).trans (by decide +kernel))).trans (by decide +kernel)
theorem dL_law_1231 : decode cL_law 1231 = .ok (.aload_n 2, 1) := dk_44 ((cL_law_at 1231 (by decide)).trans (by decide +kernel))
theorem dL_law_1232 : decode cL_law 1232 = .ok (.aload_n 0, 1) := dk_42 ((cL_law_at 1232 (by decide)).trans (by decide +kernel))
theorem dL_law_1233 : decode cL_law 1233 = .ok (.iload 5, 2) := (dk_21 (a := 5) ((cL_law_at 1233 (by decide)).trans (by decide +kernel)) ((cL_law_at 1234 (by decide)).trans (by decide +kernel))).trans (by decide +kernel)
theorem dL_law_1235 : decode cL_law 1235 = .ok (.iconst 1, 1) := dk_4 ((cL_law_at 1235 (by decide)).trans (by decide +kernel))
theorem dL_law_1236 : decode cL_law 1236 = .ok (.iadd, 1) := dk_96 ((cL_law_at 1236 (by decide)).trans (by decide +kernel))
theorem dL_law_1237 : decode cL_law 1237 = .ok (.iaload, 1) := dk_46 ((cL_law_at 1237 (by decide)).trans (by decide +kernel))
theorem dL_law_1238 : decode cL_law 1238 = .ok (.aload_n 0, 1) := dk_42 ((cL_law_at 1238 (by decide)).trans (by decide +kernel))
theorem dL_law_1239 : decode cL_law 1239 = .ok (.iload 5, 2) := (dk_21 (a := 5) ((cL_law_at 1239 (by decide)).trans (by decide +kernel)) ((cL_law_at 1240 (by decide)).trans (by decide +kernel))).trans (by decide +kernel)
theorem dL_law_1241 : decode cL_law 1241 = .ok (.iconst 2, 1) := dk_5 ((cL_law_at 1241 (by decide)).trans (by decide +kernel))
theorem dL_law_1242 : decode cL_law 1242 = .ok (.iadd, 1) := dk_96 ((cL_law_at 1242 (by decide)).trans (by decide +kernel))
theorem dL_law_1243 : decode cL_law 1243 = .ok (.iaload, 1) := dk_46 ((cL_law_at 1243 (by decide)).trans (by decide +kernel))
theorem dL_law_1244 : decode cL_law 1244 = .ok (.invokevirtual 233, 3) := (dk_182 (a := 0) (b := 233) ((cL_law_at 1244 (by decide)).trans (by decide +kernel)) ((cL_law_at 1245 (by decide)).trans (by decide +kernel)) ((cL_law_at 1246 (by decide)).trans (by decide +kernel))).trans (by decide +kernel)
theorem dL_law_1247 : decode cL_law 1247 = .ok (.istore 7, 2) := (dk_54 (a := 7) ((cL_law_at 1247 (by decide)).trans (by decide +kernel)) ((cL_law_at 1248 (by decide)).trans (by decide +kernel))).trans (by decide +kernel)
theorem dL_law_1249 : decode cL_law 1249 = .ok (.goto 132, 3) := (dk_167 (a := 0) (b := 132) ((cL_law_at 1249 (by decide)).trans (by decide +kernel)) ((cL_law_at 1250 (by decide)).trans (by decide +kernel)) ((cL_law_at 1251 (by decide)).trans (by decide +kernel))).trans (by decide +kernel)
theorem dL_law_1252 : decode cL_law 1252 = .ok (.aload_n 1, 1) := dk_43 ((cL_law_at 1252 (by decide)).trans (by decide +kernel))
theorem dL_law_1253 : decode cL_law 1253 = .ok (.aload_n 0, 1) := dk_42 ((cL_law_at 1253 (by decide)).trans (by decide +kernel))
theorem dL_law_1254 : decode cL_law 1254 = .ok (.iload 5, 2) := (dk_21 (a := 5) ((cL_law_at 1254 (by decide)).trans (by decide +kernel)) ((cL_law_at 1255 (by decide)).trans (by decide +kernel))).trans (by decide +kernel)
theorem dL_law_1256 : decode cL_law 1256 = .ok (.iconst 1, 1) := dk_4 ((cL_law_at 1256 (by decide)).trans (by decide +kernel))
theorem dL_law_1257 : decode cL_law 1257 = .ok (.iadd, 1) := dk_96 ((cL_law_at 1257 (by decide)).trans (by decide +kernel))
theorem dL_law_1258 : decode cL_law 1258 = .ok (.iaload, 1) := dk_46 ((cL_law_at 1258 (by decide)).trans (by decide +kernel))
theorem dL_law_1259 : decode cL_law 1259 = .ok (.aload_n 0, 1) := dk_42 ((cL_law_at 1259 (by decide)).trans (by decide +kernel))
theorem dL_law_1260 : decode cL_law 1260 = .ok (.iload 5, 2) := (dk_21 (a := 5) ((cL_law_at 1260 (by decide)).trans (by decide +kernel)) ((cL_law_at 1261 (by decide)).trans (by decide +kernel))).trans (by decide +kernel)
theorem dL_law_1262 : decode cL_law 1262 = .ok (.iconst 2, 1) := dk_5 ((cL_law_at 1262 (by decide)).trans (by decide +kernel))
theorem dL_law_1263 : decode cL_law 1263 = .ok (.iadd, 1) := dk_96 ((cL_law_at 1263 (by decide)).trans (by decide +kernel))
theorem dL_law_1264 : decode cL_law 1264 = .ok (.iaload, 1) := dk_46 ((cL_law_at 1264 (by decide)).trans (by decide +kernel))
theorem dL_law_1265 : decode cL_law 1265 = .ok (.aload_n 3, 1) := dk_45 ((cL_law_at 1265 (by decide)).trans (by decide +kernel))
theorem dL_law_1266 : decode cL_law 1266 = .ok (.invokestatic 234, 3) := (dk_184 (a := 0) (b := 234) ((cL_law_at 1266 (by decide)).trans (by decide +kernel)) ((cL_law_at 1267 (by decide)).trans (by decide +kernel)) ((cL_law_at 1268 (by decide)).trans (by decide +kernel))).trans (by decide +kernel)
theorem dL_law_1269 : decode cL_law 1269 = .ok (.istore 6, 2) := (dk_54 (a := 6) ((cL_law_at 1269 (by decide)).trans (by decide +kernel)) ((cL_law_at 1270 (by decide)).trans (by decide +kernel))).trans (by decide +kernel)
theorem dL_law_1271 : decode cL_law 1271 = .ok (.aload_n 2, 1) := dk_44 ((cL_law_at 1271 (by decide)).trans (by decide +kernel))
theorem dL_law_1272 : decode cL_law 1272 = .ok (.aload_n 0, 1) := dk_42 ((cL_law_at 1272 (by decide)).trans (by decide +kernel))
theorem dL_law_1273 : decode cL_law 1273 = .ok (.iload 5, 2) := (dk_21 (a := 5) ((cL_law_at 1273 (by decide)).trans (by decide +kernel)) ((cL_law_at 1274 (by decide)).trans (by decide +kernel))).trans (by decide +kernel)
theorem dL_law_1275 : decode cL_law 1275 = .ok (.iconst 1, 1) := dk_4 ((cL_law_at 1275 (by decide)).trans (by decide +kernel))
theorem dL_law_1276 : decode cL_law 1276 = .ok (.iadd, 1) := dk_96 ((cL_law_at 1276 (by decide)).trans (by decide +kernel))
theorem dL_law_1277 : decode cL_law 1277 = .ok (.iaload, 1) := dk_46 ((cL_law_at 1277 (by decide)).trans (by decide +kernel))
theorem dL_law_1278 : decode cL_law 1278 = .ok (.aload_n 0, 1) := dk_42 ((cL_law_at 1278 (by decide)).trans (by decide +kernel))
theorem dL_law_1279 : decode cL_law 1279 = .ok (.iload 5, 2) := (dk_21 (a := 5) ((cL_law_at 1279 (by decide)).trans (by decide +kernel)) ((cL_law_at 1280 (by decide)).trans (by decide +kernel))).trans (by decide +kernel)
theorem dL_law_1281 : decode cL_law 1281 = .ok (.iconst 2, 1) := dk_5 ((cL_law_at 1281 (by decide)).trans (by decide +kernel))
theorem dL_law_1282 : decode cL_law 1282 = .ok (.iadd, 1) := dk_96 ((cL_law_at 1282 (by decide)).trans (by decide +kernel))
theorem dL_law_1283 : decode cL_law 1283 = .ok (.iaload, 1) := dk_46 ((cL_law_at 1283 (by decide)).trans (by decide +kernel))
theorem dL_law_1284 : decode cL_law 1284 = .ok (.invokevirtual 236, 3) := (dk_182 (a := 0) (b := 236) ((cL_law_at 1284 (by decide)).trans (by decide +kernel)) ((cL_law_at 1285 (by decide)).trans (by decide +kernel)) ((cL_law_at 1286 (by decide)).trans (by decide +kernel))).trans (by decide +kernel)
theorem dL_law_1287 : decode cL_law 1287 = .ok (.istore 7, 2) := (dk_54 (a := 7) ((cL_law_at 1287 (by decide)).trans (by decide +kernel)) ((cL_law_at 1288 (by decide)).trans (by decide +kernel))).trans (by decide +kernel)
theorem dL_law_1289 : decode cL_law 1289 = .ok (.goto 92, 3) := (dk_167 (a := 0) (b := 92) ((cL_law_at 1289 (by decide)).trans (by decide +kernel)) ((cL_law_at 1290 (by decide)).trans (by decide +kernel)) ((cL_law_at 1291 (by decide)).trans (by decide +kernel))).trans (by decide +kernel)
theorem dL_law_1292 : decode cL_law 1292 = .ok (.aload_n 1, 1) := dk_43 ((cL_law_at 1292 (by decide)).trans (by decide +kernel))
theorem dL_law_1293 : decode cL_law 1293 = .ok (.aload_n 0, 1) := dk_42 ((cL_law_at 1293 (by decide)).trans (by decide +kernel))
theorem dL_law_1294 : decode cL_law 1294 = .ok (.iload 5, 2) := (dk_21 (a := 5) ((cL_law_at 1294 (by decide)).trans (by decide +kernel)) ((cL_law_at 1295 (by decide)).trans (by decide +kernel))).trans (by decide +kernel)
theorem dL_law_1296 : decode cL_law 1296 = .ok (.iconst 1, 1) := dk_4 ((cL_law_at 1296 (by decide)).trans (by decide +kernel))
theorem dL_law_1297 : decode cL_law 1297 = .ok (.iadd, 1) := dk_96 ((cL_law_at 1297 (by decide)).trans (by decide +kernel))
theorem dL_law_1298 : decode cL_law 1298 = .ok (.iaload, 1) := dk_46 ((cL_law_at 1298 (by decide)).trans (by decide +kernel))
theorem dL_law_1299 : decode cL_law 1299 = .ok (.aload_n 3, 1) := dk_45 ((cL_law_at 1299 (by decide)).trans (by decide +kernel))
theorem dL_law_1300 : decode cL_law 1300 = .ok (.invokestatic 237, 3) := (dk_184 (a := 0) (b := 237) ((cL_law_at 1300 (by decide)).trans (by decide +kernel)) ((cL_law_at 1301 (by decide)).trans (by decide +kernel)) ((cL_law_at 1302 (by decide)).trans (by decide +kernel))).trans (by decide +kernel)
theorem dL_law_1303 : decode cL_law 1303 = .ok (.istore 6, 2) := (dk_54 (a := 6) ((cL_law_at 1303 (by decide)).trans (by decide +kernel)) ((cL_law_at 1304 (by decide)).trans (by decide +kernel))).trans (by decide +kernel)
theorem dL_law_1305 : decode cL_law 1305 = .ok (.aload_n 2, 1) := dk_44 ((cL_law_at 1305 (by decide)).trans (by decide +kernel))
theorem dL_law_1306 : decode cL_law 1306 = .ok (.aload_n 0, 1) := dk_42 ((cL_law_at 1306 (by decide)).trans (by decide +kernel))
theorem dL_law_1307 : decode cL_law 1307 = .ok (.iload 5, 2) := (dk_21 (a := 5) ((cL_law_at 1307 (by decide)).trans (by decide +kernel)) ((cL_law_at 1308 (by decide)).trans (by decide +kernel))).trans (by decide +kernel)
theorem dL_law_1309 : decode cL_law 1309 = .ok (.iconst 1, 1) := dk_4 ((cL_law_at 1309 (by decide)).trans (by decide +kernel))
theorem dL_law_1310 : decode cL_law 1310 = .ok (.iadd, 1) := dk_96 ((cL_law_at 1310 (by decide)).trans (by decide +kernel))
theorem dL_law_1311 : decode cL_law 1311 = .ok (.iaload, 1) := dk_46 ((cL_law_at 1311 (by decide)).trans (by decide +kernel))
theorem dL_law_1312 : decode cL_law 1312 = .ok (.invokevirtual 239, 3) := (dk_182 (a := 0) (b := 239) ((cL_law_at 1312 (by decide)).trans (by decide +kernel)) ((cL_law_at 1313 (by decide)).trans (by decide +kernel)) ((cL_law_at 1314 (by decide)).trans (by decide +kernel))).trans (by decide +kernel)
theorem dL_law_1315 : decode cL_law 1315 = .ok (.istore 7, 2) := (dk_54 (a := 7) ((cL_law_at 1315 (by decide)).trans (by decide +kernel)) ((cL_law_at 1316 (by decide)).trans (by decide +kernel))).trans (by decide +kernel)
theorem dL_law_1317 : decode cL_law 1317 = .ok (.goto 64, 3) := (dk_167 (a := 0) (b := 64) ((cL_law_at 1317 (by decide)).trans (by decide +kernel)) ((cL_law_at 1318 (by decide)).trans (by decide +kernel)) ((cL_law_at 1319 (by decide)).trans (by decide +kernel))).trans (by decide +kernel)
theorem dL_law_1320 : decode cL_law 1320 = .ok (.aload_n 1, 1) := dk_43 ((cL_law_at 1320 (by decide)).trans (by decide +kernel))
theorem dL_law_1321 : decode cL_law 1321 = .ok (.aload 4, 2) := (dk_25 (a := 4) ((cL_law_at 1321 (by decide)).trans (by decide +kernel)) ((cL_law_at 1322 (by decide)).trans (by decide +kernel))).trans (by decide +kernel)
theorem dL_law_1323 : decode cL_law 1323 = .ok (.invokestatic 240, 3) := (dk_184 (a := 0) (b := 240) ((cL_law_at 1323 (by decide)).trans (by decide +kernel)) ((cL_law_at 1324 (by decide)).trans (by decide +kernel)) ((cL_law_at 1325 (by decide)).trans (by decide +kernel))).trans (by decide +kernel)
theorem dL_law_1326 : decode cL_law 1326 = .ok (.istore 6, 2) := (dk_54 (a := 6) ((cL_law_at 1326 (by decide)).trans (by decide +kernel)) ((cL_law_at 1327 (by decide)).trans (by decide +kernel))).trans (by decide +kernel)
theorem dL_law_1328 : decode cL_law 1328 = .ok (.aload_n 2, 1) := dk_44 ((cL_law_at 1328 (by decide)).trans (by decide +kernel))
theorem dL_law_1329 : decode cL_law 1329 = .ok (.invokevirtual 243, 3) := (dk_182 (a := 0) (b := 243) ((cL_law_at 1329 (by decide)).trans (by decide +kernel)) ((cL_law_at 1330 (by decide)).trans (by decide +kernel)) ((cL_law_at 1331 (by decide)).trans (by decide +kernel))).trans (by decide +kernel)
theorem dL_law_1332 : decode cL_law 1332 = .ok (.fstore 7, 2) := (dk_56 (a := 7) ((cL_law_at 1332 (by decide)).trans (by decide +kernel)) ((cL_law_at 1333 (by decide)).trans (by decide +kernel))).trans (by decide +kernel)
theorem dL_law_1334 : decode cL_law 1334 = .ok (.goto 47, 3) := (dk_167 (a := 0) (b := 47) ((cL_law_at 1334 (by decide)).trans (by decide +kernel)) ((cL_law_at 1335 (by decide)).trans (by decide +kernel)) ((cL_law_at 1336 (by decide)).trans (by decide +kernel))).trans (by decide +kernel)
theorem dL_law_1337 : decode cL_law 1337 = .ok (.aload_n 1, 1) := dk_43 ((cL_law_at 1337 (by decide)).trans (by decide +kernel))
theorem dL_law_1338 : decode cL_law 1338 = .ok (.aload 4, 2) := (dk_25 (a := 4) ((cL_law_at 1338 (by decide)).trans (by decide +kernel)) ((cL_law_at 1339 (by decide)).trans (by decide +kernel))).trans (by decide +kernel)
theorem dL_law_1340 : decode cL_law 1340 = .ok (.invokestatic 244, 3) := (dk_184 (a := 0) (b := 244) ((cL_law_at 1340 (by decide)).trans (by decide +kernel)) ((cL_law_at 1341 (by decide)).trans (by decide +kernel)) ((cL_law_at 1342 (by decide)).trans (by decide +kernel))).trans (by decide +kernel)
theorem dL_law_1343 : decode cL_law 1343 = .ok (.istore 6, 2) := (dk_54 (a := 6) ((cL_law_at 1343 (by decide)).trans (by decide +kernel)) ((cL_law_at 1344 (by decide)).trans (by decide +kernel))).trans (by decide +kernel)
theorem dL_law_1345 : decode cL_law 1345 = .ok (.aload_n 2, 1) := dk_44 ((cL_law_at 1345 (by decide)).trans (by decide +kernel))
theorem dL_law_1346 : decode cL_law 1346 = .ok (.invokevirtual 246, 3) := (dk_182 (a := 0) (b := 246) ((cL_law_at 1346 (by decide)).trans (by decide +kernel)) ((cL_law_at 1347 (by decide)).trans (by decide +kernel)) ((cL_law_at 1348 (by decide)).trans (by decide +kernel))).trans (by decide +kernel)
theorem dL_law_1349 : decode cL_law 1349 = .ok (.dstore 7, 2) := (dk_57 (a := 7) ((cL_law_at 1349 (by decide)).trans (by decide +kernel)) ((cL_law_at 1350 (by decide)).trans (by decide +kernel))).trans (by decide +kernel)
theorem dL_law_1351 : decode cL_law 1351 = .ok (.goto 30, 3) := (dk_167 (a := 0) (b := 30) ((cL_law_at 1351 (by decide)).trans (by decide +kernel)) ((cL_law_at 1352 (by decide)).trans (by decide +kernel)) ((cL_law_at 1353 (by decide)).trans (by decide +kernel))).trans (by decide +kernel)
theorem dL_law_1354 : decode cL_law 1354 = .ok (.aload_n 1, 1) := dk_43 ((cL_law_at 1354 (by decide)).trans (by decide +kernel))
theorem dL_law_1355 : decode cL_law 1355 = .ok (.invokevirtual 247, 3) := (dk_182 (a := 0) (b := 247) ((cL_law_at 1355 (by decide)).trans (by decide +kernel)) ((cL_law_at 1356 (by decide)).trans (by decide +kernel)) ((cL_law_at 1357 (by decide)).trans (by decide +kernel))).trans (by decide +kernel)
theorem dL_law_1358 : decode cL_law 1358 = .ok (.aload_n 2, 1) := dk_44 ((cL_law_at 1358 (by decide)).trans (by decide +kernel))
theorem dL_law_1359 : decode cL_law 1359 = .ok (.invokevirtual 251, 3) := (dk_182 (a := 0) (b := 251) ((cL_law_at 1359 (by decide)).trans (by decide +kernel)) ((cL_law_at 1360 (by decide)).trans (by decide +kernel)) ((cL_law_at 1361 (by decide)).trans (by decide +kernel))).trans (by decide +kernel)
theorem dL_law_1362 : decode cL_law 1362 = .ok (.lcmp, 1) := dk_148 ((cL_law_at 1362 (by decide)).trans (by decide +kernel))
theorem dL_law_1363 : decode cL_law 1363 = .ok (.ifCond .eq 18, 3) := (dk_153 (a := 0) (b := 18) ((cL_law_at 1363 (by decide)).trans (by decide +kernel)) ((cL_law_at 1364 (by decide)).trans (by decide +kernel)) ((cL_law_at 1365 (by decide)).trans (by decide +kernel))).trans (by decide +kernel)
theorem dL_law_1366 : decode cL_law 1366 = .ok (.iconst 0, 1) := dk_3 ((cL_law_at 1366 (by decide)).trans (by decide +kernel))
theorem dL_law_1367 : decode cL_law 1367 = .ok (.ireturn, 1) := dk_172 ((cL_law_at 1367 (by decide)).trans (by decide +kernel))
theorem dL_law_1368 : decode cL_law 1368 = .ok (.aload_n 1, 1) := dk_43 ((cL_law_at 1368 (by decide)).trans (by decide +kernel))
theorem dL_law_1369 : decode cL_law 1369 = .ok (.invokevirtual 252, 3) := (dk_182 (a := 0) (b := 252) ((cL_law_at 1369 (by decide)).trans (by decide +kernel)) ((cL_law_at 1370 (by decide)).trans (by decide +kernel)) ((cL_law_at 1371 (by decide)).trans (by decide +kernel))).trans (by decide +kernel)
theorem dL_law_1372 : decode cL_law 1372 = .ok (.pop, 1) := dk_87 ((cL_law_at 1372 (by decide)).trans (by decide +kernel))
theorem dL_law_1373 : decode cL_law 1373 = .ok (.aload_n 2, 1) := dk_44 ((cL_law_at 1373 (by decide)).trans (by decide +kernel))
theorem dL_law_1374 : decode cL_law 1374 = .ok (.invokevirtual 256, 3) := (dk_182 (a := 1) (b := 0) ((cL_law_at 1374 (by decide)).trans (by decide +kernel)) ((cL_law_at 1375 (by decide)).trans (by decide +kernel)) ((cL_law_at 1376 (by decide)).trans (by decide +kernel))).trans (by decide +kernel)
theorem dL_law_1377 : decode cL_law 1377 = .ok (.pop, 1) := dk_87 ((cL_law_at 1377 (by decide)).trans (by decide +kernel))
theorem dL_law_1378 : decode cL_law 1378 = .ok (.goto 3, 3) := (dk_167 (a := 0) (b := 3) ((cL_law_at 1378 (by decide)).trans (by decide +kernel)) ((cL_law_at 1379 (by decide)).trans (by decide +kernel)) ((cL_law_at 1380 (by decide)).trans (by decide +kernel))).trans (by decide +kernel)
theorem dL_law_1381 : decode cL_law 1381 = .ok (.iinc 5 5, 3) := by decide +kernel
theorem dL_law_1384 : decode cL_law 1384 = .ok (.goto (-1356), 3) := (dk_167 (a := 250) (b := 180) ((cL_law_at 1384 (by decide)).trans (by decide +kernel)) ((cL_law_at 1385 (by decide)).trans (by decide +kernel)) ((cL_law_at 1386 (by decide)).trans (by decide +kernel))).trans (by decide +kernel)
theorem dL_law_1387 : decode cL_law 1387 = .ok (.iconst 1, 1) := dk_4 ((cL_law_at 1387 (by decide)).trans (by decide +kernel))
theorem dL_law_1388 : decode cL_law 1388 = .ok (.ireturn, 1) := dk_172 ((cL_law_at 1388 (by decide)).trans (by decide +kernel))

