def RX0 : String := "Settbook$Copy"
def TX0 : u_T := fun k => match k with
  | 0 => ("Settbook$Copy", "sett", "I", true)
  | 1 => ("Settbook$Copy", "told", "LSettbook$Row;", true)
  | _ => ("Settbook$Copy", "counts", "[I", true)
def tyX0 : Nat → FieldType := fun k => match k with
  | 0 => .int
  | 1 => .object "Settbook$Row"
  | _ => .array .int
abbrev wsX00 : List Cond := u_ws RX0 TX0 3
theorem nmX0 : ∀ a, a < 3 → ∀ b, b < 3 → a ≠ b → (TX0 a).2.1 ≠ (TX0 b).2.1 := by decide +kernel
theorem tyX0_ok : ∀ k, k < 3 → parseFieldDescriptor (TX0 k).2.2.1 = some (tyX0 k) := by decide +kernel
abbrev cX0_init : ByteArray := prog_2_method_1_code
def yX0_init : MethodName := ⟨RX0, "<init>", "(ILSettbook$Row;)V"⟩
abbrev cX0_has : ByteArray := prog_2_method_2_code
def yX0_has : MethodName := ⟨RX0, "has", "(I)Z"⟩
abbrev cX0_put : ByteArray := prog_2_method_3_code
def yX0_put : MethodName := ⟨RX0, "put", "(II)V"⟩
abbrev cX0_countAt : ByteArray := prog_2_method_4_code
def yX0_countAt : MethodName := ⟨RX0, "countAt", "(I)I"⟩
abbrev cX0_isError : ByteArray := prog_2_method_5_code
def yX0_isError : MethodName := ⟨RX0, "isError", "(I)Z"⟩
abbrev cX0_countErrors : ByteArray := prog_2_method_6_code
def yX0_countErrors : MethodName := ⟨RX0, "countErrors", "()I"⟩
abbrev cX0_kinshipTo : ByteArray := prog_2_method_7_code
def yX0_kinshipTo : MethodName := ⟨RX0, "kinshipTo", "(LSettbook$Copy;)I"⟩
def RX1 : String := "Settbook$Mill"
def TX1 : u_T := fun k => match k with
  | 0 => ("Settbook$Mill", "warpSetts", "[I", true)
  | 1 => ("Settbook$Mill", "warpRests", "[I", true)
  | 2 => ("Settbook$Mill", "orderWarps", "[I", true)
  | 3 => ("Settbook$Mill", "warpCount", "I", false)
  | _ => ("Settbook$Mill", "orderCount", "I", false)
def tyX1 : Nat → FieldType := fun k => match k with
  | 0 => .array .int
  | 1 => .array .int
  | 2 => .array .int
  | 3 => .int
  | _ => .int
abbrev wsX10 : List Cond := u_ws RX1 TX1 5
theorem nmX1 : ∀ a, a < 5 → ∀ b, b < 5 → a ≠ b → (TX1 a).2.1 ≠ (TX1 b).2.1 := by decide +kernel
theorem tyX1_ok : ∀ k, k < 5 → parseFieldDescriptor (TX1 k).2.2.1 = some (tyX1 k) := by decide +kernel
abbrev cX1_init : ByteArray := prog_3_method_1_code
def yX1_init : MethodName := ⟨RX1, "<init>", "()V"⟩
abbrev cX1_hasWarp : ByteArray := prog_3_method_2_code
def yX1_hasWarp : MethodName := ⟨RX1, "hasWarp", "(I)Z"⟩
abbrev cX1_hasOrder : ByteArray := prog_3_method_3_code
def yX1_hasOrder : MethodName := ⟨RX1, "hasOrder", "(I)Z"⟩
abbrev cX1_isFull : ByteArray := prog_3_method_4_code
def yX1_isFull : MethodName := ⟨RX1, "isFull", "()Z"⟩
abbrev cX1_isBooked : ByteArray := prog_3_method_5_code
def yX1_isBooked : MethodName := ⟨RX1, "isBooked", "()Z"⟩
abbrev cX1_settAt : ByteArray := prog_3_method_6_code
def yX1_settAt : MethodName := ⟨RX1, "settAt", "(I)I"⟩
abbrev cX1_restAt : ByteArray := prog_3_method_7_code
def yX1_restAt : MethodName := ⟨RX1, "restAt", "(I)I"⟩
abbrev cX1_warpAt : ByteArray := prog_3_method_8_code
def yX1_warpAt : MethodName := ⟨RX1, "warpAt", "(I)I"⟩
abbrev cX1_putUp : ByteArray := prog_3_method_9_code
def yX1_putUp : MethodName := ⟨RX1, "putUp", "(II)I"⟩
abbrev cX1_takeDown : ByteArray := prog_3_method_10_code
def yX1_takeDown : MethodName := ⟨RX1, "takeDown", "()I"⟩
abbrev cX1_put : ByteArray := prog_3_method_11_code
def yX1_put : MethodName := ⟨RX1, "put", "(II)I"⟩
def RX2 : String := "Settbook$Palette"
def TX2 : u_T := fun k => match k with
  | 0 => ("Settbook$Palette", "letters", "[C", true)
  | 1 => ("Settbook$Palette", "parts", "[I", true)
  | 2 => ("Settbook$Palette", "distances", "[I", true)
  | _ => ("Settbook$Palette", "size", "I", false)
def tyX2 : Nat → FieldType := fun k => match k with
  | 0 => .array .char
  | 1 => .array .int
  | 2 => .array .int
  | _ => .int
abbrev wsX20 : List Cond := u_ws RX2 TX2 4
theorem nmX2 : ∀ a, a < 4 → ∀ b, b < 4 → a ≠ b → (TX2 a).2.1 ≠ (TX2 b).2.1 := by decide +kernel
theorem tyX2_ok : ∀ k, k < 4 → parseFieldDescriptor (TX2 k).2.2.1 = some (tyX2 k) := by decide +kernel
abbrev cX2_init : ByteArray := prog_4_method_1_code
def yX2_init : MethodName := ⟨RX2, "<init>", "()V"⟩
abbrev cX2_has : ByteArray := prog_4_method_2_code
def yX2_has : MethodName := ⟨RX2, "has", "(I)Z"⟩
abbrev cX2_hasLetter : ByteArray := prog_4_method_3_code
def yX2_hasLetter : MethodName := ⟨RX2, "hasLetter", "(C)Z"⟩
abbrev cX2_isFull : ByteArray := prog_4_method_4_code
def yX2_isFull : MethodName := ⟨RX2, "isFull", "()Z"⟩
abbrev cX2_put : ByteArray := prog_4_method_5_code
def yX2_put : MethodName := ⟨RX2, "put", "(CIII)I"⟩
abbrev cX2_measure : ByteArray := prog_4_method_6_code
def yX2_measure : MethodName := ⟨RX2, "measure", "(I)V"⟩
abbrev cX2_keepDistance : ByteArray := prog_4_method_7_code
def yX2_keepDistance : MethodName := ⟨RX2, "keepDistance", "(III)V"⟩
abbrev cX2_partAt : ByteArray := prog_4_method_8_code
def yX2_partAt : MethodName := ⟨RX2, "partAt", "(II)I"⟩
abbrev cX2_apart : ByteArray := prog_4_method_9_code
def yX2_apart : MethodName := ⟨RX2, "apart", "(II)I"⟩
abbrev cX2_partsApart : ByteArray := prog_4_method_10_code
def yX2_partsApart : MethodName := ⟨RX2, "partsApart", "(II)I"⟩
def RX3 : String := "Settbook$Row"
def TX3 : u_T := fun k => match k with
  | 0 => ("Settbook$Row", "shades", "[I", true)
  | 1 => ("Settbook$Row", "counts", "[I", true)
  | _ => ("Settbook$Row", "size", "I", false)
def tyX3 : Nat → FieldType := fun k => match k with
  | 0 => .array .int
  | 1 => .array .int
  | _ => .int
abbrev wsX30 : List Cond := u_ws RX3 TX3 3
theorem nmX3 : ∀ a, a < 3 → ∀ b, b < 3 → a ≠ b → (TX3 a).2.1 ≠ (TX3 b).2.1 := by decide +kernel
theorem tyX3_ok : ∀ k, k < 3 → parseFieldDescriptor (TX3 k).2.2.1 = some (tyX3 k) := by decide +kernel
abbrev cX3_init : ByteArray := prog_5_method_1_code
def yX3_init : MethodName := ⟨RX3, "<init>", "(I)V"⟩
abbrev cX3_has : ByteArray := prog_5_method_2_code
def yX3_has : MethodName := ⟨RX3, "has", "(I)Z"⟩
abbrev cX3_isFull : ByteArray := prog_5_method_3_code
def yX3_isFull : MethodName := ⟨RX3, "isFull", "()Z"⟩
abbrev cX3_put : ByteArray := prog_5_method_4_code
def yX3_put : MethodName := ⟨RX3, "put", "(II)V"⟩
abbrev cX3_clear : ByteArray := prog_5_method_5_code
def yX3_clear : MethodName := ⟨RX3, "clear", "()V"⟩
abbrev cX3_shadeAt : ByteArray := prog_5_method_6_code
def yX3_shadeAt : MethodName := ⟨RX3, "shadeAt", "(I)I"⟩
abbrev cX3_countAt : ByteArray := prog_5_method_7_code
def yX3_countAt : MethodName := ⟨RX3, "countAt", "(I)I"⟩
abbrev cX3_copied : ByteArray := prog_5_method_8_code
def yX3_copied : MethodName := ⟨RX3, "copied", "()LSettbook$Row;"⟩
abbrev cX3_canBeSett : ByteArray := prog_5_method_9_code
def yX3_canBeSett : MethodName := ⟨RX3, "canBeSett", "(Z)Z"⟩
abbrev cX3_roundOf : ByteArray := prog_5_method_10_code
def yX3_roundOf : MethodName := ⟨RX3, "roundOf", "(Z)LSettbook$Row;"⟩
abbrev cX3_countThreads : ByteArray := prog_5_method_11_code
def yX3_countThreads : MethodName := ⟨RX3, "countThreads", "()I"⟩
abbrev cX3_threadsOf : ByteArray := prog_5_method_12_code
def yX3_threadsOf : MethodName := ⟨RX3, "threadsOf", "(I)I"⟩
abbrev cX3_firstThread : ByteArray := prog_5_method_13_code
def yX3_firstThread : MethodName := ⟨RX3, "firstThread", "(I)I"⟩
abbrev cX3_placeInTurn : ByteArray := prog_5_method_14_code
def yX3_placeInTurn : MethodName := ⟨RX3, "placeInTurn", "(III)I"⟩
abbrev cX3_nextTo : ByteArray := prog_5_method_15_code
def yX3_nextTo : MethodName := ⟨RX3, "nextTo", "(II)I"⟩
abbrev cX3_compareTurns : ByteArray := prog_5_method_16_code
def yX3_compareTurns : MethodName := ⟨RX3, "compareTurns", "(IIII)I"⟩
abbrev cX3_lowestTurn : ByteArray := prog_5_method_17_code
def yX3_lowestTurn : MethodName := ⟨RX3, "lowestTurn", "()LSettbook$Row;"⟩
abbrev cX3_equalsTurn : ByteArray := prog_5_method_18_code
def yX3_equalsTurn : MethodName := ⟨RX3, "equalsTurn", "(LSettbook$Row;II)Z"⟩
abbrev cX3_isTurnOf : ByteArray := prog_5_method_19_code
def yX3_isTurnOf : MethodName := ⟨RX3, "isTurnOf", "(LSettbook$Row;)Z"⟩
abbrev cX3_hasTwins : ByteArray := prog_5_method_20_code
def yX3_hasTwins : MethodName := ⟨RX3, "hasTwins", "()Z"⟩
abbrev cX3_scaledCount : ByteArray := prog_5_method_21_code
def yX3_scaledCount : MethodName := ⟨RX3, "scaledCount", "(III)I"⟩
abbrev cX3_greatestScaled : ByteArray := prog_5_method_22_code
def yX3_greatestScaled : MethodName := ⟨RX3, "greatestScaled", "(II)I"⟩
abbrev cX3_lossOfScaling : ByteArray := prog_5_method_23_code
def yX3_lossOfScaling : MethodName := ⟨RX3, "lossOfScaling", "(II)I"⟩
abbrev cX3_scaled : ByteArray := prog_5_method_24_code
def yX3_scaled : MethodName := ⟨RX3, "scaled", "(II)LSettbook$Row;"⟩
abbrev cX3_liesAt : ByteArray := prog_5_method_25_code
def yX3_liesAt : MethodName := ⟨RX3, "liesAt", "(LSettbook$Row;II)Z"⟩
abbrev cX3_isScrapOf : ByteArray := prog_5_method_26_code
def yX3_isScrapOf : MethodName := ⟨RX3, "isScrapOf", "(LSettbook$Row;)Z"⟩
def RX4 : String := "Settbook$Sett"
def TX4 : u_T := fun k => match k with
  | 0 => ("Settbook$Sett", "number", "I", true)
  | 1 => ("Settbook$Sett", "told", "LSettbook$Row;", true)
  | 2 => ("Settbook$Sett", "isMirrored", "Z", true)
  | 3 => ("Settbook$Sett", "round", "LSettbook$Row;", true)
  | 4 => ("Settbook$Sett", "form", "LSettbook$Row;", true)
  | 5 => ("Settbook$Sett", "threads", "I", true)
  | 6 => ("Settbook$Sett", "percents", "[I", true)
  | 7 => ("Settbook$Sett", "distances", "[I", true)
  | 8 => ("Settbook$Sett", "isRegistered", "Z", false)
  | 9 => ("Settbook$Sett", "isWithdrawn", "Z", false)
  | 10 => ("Settbook$Sett", "kind", "C", false)
  | 11 => ("Settbook$Sett", "owner", "I", false)
  | 12 => ("Settbook$Sett", "proof", "I", false)
  | _ => ("Settbook$Sett", "consents", "I", false)
def tyX4 : Nat → FieldType := fun k => match k with
  | 0 => .int
  | 1 => .object "Settbook$Row"
  | 2 => .boolean
  | 3 => .object "Settbook$Row"
  | 4 => .object "Settbook$Row"
  | 5 => .int
  | 6 => .array .int
  | 7 => .array .int
  | 8 => .boolean
  | 9 => .boolean
  | 10 => .char
  | 11 => .int
  | 12 => .int
  | _ => .int
abbrev wsX40 : List Cond := u_ws RX4 TX4 14
theorem nmX4 : ∀ a, a < 14 → ∀ b, b < 14 → a ≠ b → (TX4 a).2.1 ≠ (TX4 b).2.1 := by decide +kernel
theorem tyX4_ok : ∀ k, k < 14 → parseFieldDescriptor (TX4 k).2.2.1 = some (tyX4 k) := by decide +kernel
abbrev cX4_init : ByteArray := prog_6_method_1_code
def yX4_init : MethodName := ⟨RX4, "<init>", "(ILSettbook$Row;Z)V"⟩
abbrev cX4_percentAt : ByteArray := prog_6_method_2_code
def yX4_percentAt : MethodName := ⟨RX4, "percentAt", "(I)I"⟩
abbrev cX4_threadShade : ByteArray := prog_6_method_3_code
def yX4_threadShade : MethodName := ⟨RX4, "threadShade", "(I)I"⟩
abbrev cX4_pleatBegin : ByteArray := prog_6_method_4_code
def yX4_pleatBegin : MethodName := ⟨RX4, "pleatBegin", "(ZIII)I"⟩
abbrev cX4_hasConsent : ByteArray := prog_6_method_5_code
def yX4_hasConsent : MethodName := ⟨RX4, "hasConsent", "(I)Z"⟩
abbrev cX4_keptDistance : ByteArray := prog_6_method_6_code
def yX4_keptDistance : MethodName := ⟨RX4, "keptDistance", "(I)I"⟩
abbrev cX4_keepDistance : ByteArray := prog_6_method_7_code
def yX4_keepDistance : MethodName := ⟨RX4, "keepDistance", "(II)V"⟩
def RX5 : String := "Settbook"
def TX5 : u_T := fun k => match k with
  | 0 => ("Settbook", "palette", "LSettbook$Palette;", true)
  | 1 => ("Settbook", "row", "LSettbook$Row;", true)
  | 2 => ("Settbook", "setts", "Ljava/util/ArrayList;", true)
  | 3 => ("Settbook", "copies", "Ljava/util/ArrayList;", true)
  | 4 => ("Settbook", "mill", "LSettbook$Mill;", true)
  | 5 => ("Settbook", "loss", "I", false)
  | 6 => ("Settbook", "ruling", "I", false)
  | 7 => ("Settbook", "registered", "I", false)
  | _ => ("Settbook", "waste", "I", false)
def tyX5 : Nat → FieldType := fun k => match k with
  | 0 => .object "Settbook$Palette"
  | 1 => .object "Settbook$Row"
  | 2 => .object "java/util/ArrayList"
  | 3 => .object "java/util/ArrayList"
  | 4 => .object "Settbook$Mill"
  | 5 => .int
  | 6 => .int
  | 7 => .int
  | _ => .int
abbrev wsX50 : List Cond := u_ws RX5 TX5 9
theorem nmX5 : ∀ a, a < 9 → ∀ b, b < 9 → a ≠ b → (TX5 a).2.1 ≠ (TX5 b).2.1 := by decide +kernel
theorem tyX5_ok : ∀ k, k < 9 → parseFieldDescriptor (TX5 k).2.2.1 = some (tyX5 k) := by decide +kernel
abbrev cX5_init : ByteArray := prog_1_method_1_code
def yX5_init : MethodName := ⟨RX5, "<init>", "()V"⟩
abbrev cX5_addShade : ByteArray := prog_1_method_2_code
def yX5_addShade : MethodName := ⟨RX5, "addShade", "(CIII)I"⟩
abbrev cX5_getPart : ByteArray := prog_1_method_3_code
def yX5_getPart : MethodName := ⟨RX5, "getPart", "(ICI)I"⟩
abbrev cX5_shadeDistance : ByteArray := prog_1_method_4_code
def yX5_shadeDistance : MethodName := ⟨RX5, "shadeDistance", "(II)I"⟩
abbrev cX5_addStripe : ByteArray := prog_1_method_5_code
def yX5_addStripe : MethodName := ⟨RX5, "addStripe", "(II)I"⟩
abbrev cX5_clearStripes : ByteArray := prog_1_method_6_code
def yX5_clearStripes : MethodName := ⟨RX5, "clearStripes", "()I"⟩
abbrev cX5_makeSett : ByteArray := prog_1_method_7_code
def yX5_makeSett : MethodName := ⟨RX5, "makeSett", "(Z)I"⟩
abbrev cX5_getThreads : ByteArray := prog_1_method_8_code
def yX5_getThreads : MethodName := ⟨RX5, "getThreads", "(I)I"⟩
abbrev cX5_countStripes : ByteArray := prog_1_method_9_code
def yX5_countStripes : MethodName := ⟨RX5, "countStripes", "(I)I"⟩
abbrev cX5_getShade : ByteArray := prog_1_method_10_code
def yX5_getShade : MethodName := ⟨RX5, "getShade", "(II)I"⟩
abbrev cX5_getCount : ByteArray := prog_1_method_11_code
def yX5_getCount : MethodName := ⟨RX5, "getCount", "(II)I"⟩
abbrev cX5_formShade : ByteArray := prog_1_method_12_code
def yX5_formShade : MethodName := ⟨RX5, "formShade", "(II)I"⟩
abbrev cX5_formCount : ByteArray := prog_1_method_13_code
def yX5_formCount : MethodName := ⟨RX5, "formCount", "(II)I"⟩
abbrev cX5_isAlike : ByteArray := prog_1_method_14_code
def yX5_isAlike : MethodName := ⟨RX5, "isAlike", "(II)Z"⟩
abbrev cX5_lowestAlike : ByteArray := prog_1_method_15_code
def yX5_lowestAlike : MethodName := ⟨RX5, "lowestAlike", "(I)I"⟩
abbrev cX5_shadeOf : ByteArray := prog_1_method_16_code
def yX5_shadeOf : MethodName := ⟨RX5, "shadeOf", "(II)I"⟩
abbrev cX5_getShare : ByteArray := prog_1_method_17_code
def yX5_getShare : MethodName := ⟨RX5, "getShare", "(II)I"⟩
abbrev cX5_meanPart : ByteArray := prog_1_method_18_code
def yX5_meanPart : MethodName := ⟨RX5, "meanPart", "(II)I"⟩
abbrev cX5_joins : ByteArray := prog_1_method_19_code
def yX5_joins : MethodName := ⟨RX5, "joins", "(III)Z"⟩
abbrev cX5_over : ByteArray := prog_1_method_20_code
def yX5_over : MethodName := ⟨RX5, "over", "(III)I"⟩
abbrev cX5_scale : ByteArray := prog_1_method_21_code
def yX5_scale : MethodName := ⟨RX5, "scale", "(III)I"⟩
abbrev cX5_getLoss : ByteArray := prog_1_method_22_code
def yX5_getLoss : MethodName := ⟨RX5, "getLoss", "()I"⟩
abbrev cX5_twillAt : ByteArray := prog_1_method_23_code
def yX5_twillAt : MethodName := ⟨RX5, "twillAt", "(III)I"⟩
abbrev cX5_distance : ByteArray := prog_1_method_24_code
def yX5_distance : MethodName := ⟨RX5, "distance", "(II)I"⟩
abbrev cX5_setRuling : ByteArray := prog_1_method_25_code
def yX5_setRuling : MethodName := ⟨RX5, "setRuling", "(I)I"⟩
abbrev cX5_register : ByteArray := prog_1_method_26_code
def yX5_register : MethodName := ⟨RX5, "register", "(ICII)I"⟩
abbrev cX5_withdraw : ByteArray := prog_1_method_27_code
def yX5_withdraw : MethodName := ⟨RX5, "withdraw", "(I)Z"⟩
abbrev cX5_isContested : ByteArray := prog_1_method_28_code
def yX5_isContested : MethodName := ⟨RX5, "isContested", "(I)Z"⟩
abbrev cX5_contestedBy : ByteArray := prog_1_method_29_code
def yX5_contestedBy : MethodName := ⟨RX5, "contestedBy", "(I)I"⟩
abbrev cX5_consent : ByteArray := prog_1_method_30_code
def yX5_consent : MethodName := ⟨RX5, "consent", "(II)Z"⟩
abbrev cX5_mayWeave : ByteArray := prog_1_method_31_code
def yX5_mayWeave : MethodName := ⟨RX5, "mayWeave", "(II)Z"⟩
abbrev cX5_rightOf : ByteArray := prog_1_method_32_code
def yX5_rightOf : MethodName := ⟨RX5, "rightOf", "(I)I"⟩
abbrev cX5_pleatShade : ByteArray := prog_1_method_33_code
def yX5_pleatShade : MethodName := ⟨RX5, "pleatShade", "(IZIIII)I"⟩
abbrev cX5_isPlain : ByteArray := prog_1_method_34_code
def yX5_isPlain : MethodName := ⟨RX5, "isPlain", "(IZIII)Z"⟩
abbrev cX5_threadsUsed : ByteArray := prog_1_method_35_code
def yX5_threadsUsed : MethodName := ⟨RX5, "threadsUsed", "(IZII)I"⟩
abbrev cX5_order : ByteArray := prog_1_method_36_code
def yX5_order : MethodName := ⟨RX5, "order", "(III)I"⟩
abbrev cX5_warpOf : ByteArray := prog_1_method_37_code
def yX5_warpOf : MethodName := ⟨RX5, "warpOf", "(I)I"⟩
abbrev cX5_left : ByteArray := prog_1_method_38_code
def yX5_left : MethodName := ⟨RX5, "left", "(I)I"⟩
abbrev cX5_cut : ByteArray := prog_1_method_39_code
def yX5_cut : MethodName := ⟨RX5, "cut", "()I"⟩
abbrev cX5_getWaste : ByteArray := prog_1_method_40_code
def yX5_getWaste : MethodName := ⟨RX5, "getWaste", "()I"⟩
abbrev cX5_addCopy : ByteArray := prog_1_method_41_code
def yX5_addCopy : MethodName := ⟨RX5, "addCopy", "(I)I"⟩
abbrev cX5_miscopy : ByteArray := prog_1_method_42_code
def yX5_miscopy : MethodName := ⟨RX5, "miscopy", "(III)I"⟩
abbrev cX5_parentOf : ByteArray := prog_1_method_43_code
def yX5_parentOf : MethodName := ⟨RX5, "parentOf", "(I)I"⟩
abbrev cX5_depth : ByteArray := prog_1_method_44_code
def yX5_depth : MethodName := ⟨RX5, "depth", "(I)I"⟩
abbrev cX5_fits : ByteArray := prog_1_method_45_code
def yX5_fits : MethodName := ⟨RX5, "fits", "(I)Z"⟩
abbrev cX5_countFits : ByteArray := prog_1_method_46_code
def yX5_countFits : MethodName := ⟨RX5, "countFits", "()I"⟩
abbrev cX5_checksum : ByteArray := prog_1_method_47_code
def yX5_checksum : MethodName := ⟨RX5, "checksum", "()J"⟩
abbrev cX5_contestedShare : ByteArray := prog_1_method_48_code
def yX5_contestedShare : MethodName := ⟨RX5, "contestedShare", "()F"⟩
abbrev cX5_meanThreads : ByteArray := prog_1_method_49_code
def yX5_meanThreads : MethodName := ⟨RX5, "meanThreads", "()D"⟩
abbrev cX5_isSound : ByteArray := prog_1_method_50_code
def yX5_isSound : MethodName := ⟨RX5, "isSound", "()Z"⟩
abbrev cX5_isWithin : ByteArray := prog_1_method_51_code
def yX5_isWithin : MethodName := ⟨RX5, "isWithin", "(III)Z"⟩
abbrev cX5_requireWithin : ByteArray := prog_1_method_52_code
def yX5_requireWithin : MethodName := ⟨RX5, "requireWithin", "(III)V"⟩
abbrev cX5_requirePart : ByteArray := prog_1_method_53_code
def yX5_requirePart : MethodName := ⟨RX5, "requirePart", "(I)V"⟩
abbrev cX5_requireStripe : ByteArray := prog_1_method_54_code
def yX5_requireStripe : MethodName := ⟨RX5, "requireStripe", "(LSettbook$Row;I)V"⟩
abbrev cX5_requirePleat : ByteArray := prog_1_method_55_code
def yX5_requirePleat : MethodName := ⟨RX5, "requirePleat", "(LSettbook$Sett;ZIII)V"⟩
abbrev cX5_requireShade : ByteArray := prog_1_method_56_code
def yX5_requireShade : MethodName := ⟨RX5, "requireShade", "(I)V"⟩
abbrev cX5_requireRoomForSett : ByteArray := prog_1_method_57_code
def yX5_requireRoomForSett : MethodName := ⟨RX5, "requireRoomForSett", "()V"⟩
abbrev cX5_requireScrap : ByteArray := prog_1_method_58_code
def yX5_requireScrap : MethodName := ⟨RX5, "requireScrap", "()V"⟩
abbrev cX5_settAt : ByteArray := prog_1_method_59_code
def yX5_settAt : MethodName := ⟨RX5, "settAt", "(I)LSettbook$Sett;"⟩
abbrev cX5_registeredAt : ByteArray := prog_1_method_60_code
def yX5_registeredAt : MethodName := ⟨RX5, "registeredAt", "(I)LSettbook$Sett;"⟩
abbrev cX5_copyAt : ByteArray := prog_1_method_61_code
def yX5_copyAt : MethodName := ⟨RX5, "copyAt", "(I)LSettbook$Copy;"⟩
abbrev cX5_quotient : ByteArray := prog_1_method_62_code
def yX5_quotient : MethodName := ⟨RX5, "quotient", "(II)I"⟩
abbrev cX5_rest : ByteArray := prog_1_method_63_code
def yX5_rest : MethodName := ⟨RX5, "rest", "(II)I"⟩
abbrev cX5_keepSett : ByteArray := prog_1_method_64_code
def yX5_keepSett : MethodName := ⟨RX5, "keepSett", "(LSettbook$Row;Z)I"⟩
abbrev cX5_threadsOver : ByteArray := prog_1_method_65_code
def yX5_threadsOver : MethodName := ⟨RX5, "threadsOver", "(LSettbook$Sett;II)I"⟩
abbrev cX5_distanceBetween : ByteArray := prog_1_method_66_code
def yX5_distanceBetween : MethodName := ⟨RX5, "distanceBetween", "(LSettbook$Sett;LSettbook$Sett;)I"⟩
abbrev cX5_turnDistance : ByteArray := prog_1_method_67_code
def yX5_turnDistance : MethodName := ⟨RX5, "turnDistance", "(LSettbook$Sett;LSettbook$Sett;III)I"⟩
abbrev cX5_goesAhead : ByteArray := prog_1_method_68_code
def yX5_goesAhead : MethodName := ⟨RX5, "goesAhead", "(LSettbook$Sett;LSettbook$Sett;)Z"⟩
abbrev cX5_contests : ByteArray := prog_1_method_69_code
def yX5_contests : MethodName := ⟨RX5, "contests", "(LSettbook$Sett;LSettbook$Sett;)Z"⟩
abbrev cX5_foremostRival : ByteArray := prog_1_method_70_code
def yX5_foremostRival : MethodName := ⟨RX5, "foremostRival", "(LSettbook$Sett;)LSettbook$Sett;"⟩
abbrev cX5_foremostAlike : ByteArray := prog_1_method_71_code
def yX5_foremostAlike : MethodName := ⟨RX5, "foremostAlike", "(LSettbook$Sett;)LSettbook$Sett;"⟩
abbrev cX5_isAllowed : ByteArray := prog_1_method_72_code
def yX5_isAllowed : MethodName := ⟨RX5, "isAllowed", "(LSettbook$Sett;I)Z"⟩
abbrev cX5_firstWarpFor : ByteArray := prog_1_method_73_code
def yX5_firstWarpFor : MethodName := ⟨RX5, "firstWarpFor", "(LSettbook$Sett;I)I"⟩
abbrev cX5_likelyParent : ByteArray := prog_1_method_74_code
def yX5_likelyParent : MethodName := ⟨RX5, "likelyParent", "(LSettbook$Copy;I)I"⟩
abbrev cX5_areRoundsSound : ByteArray := prog_1_method_75_code
def yX5_areRoundsSound : MethodName := ⟨RX5, "areRoundsSound", "()Z"⟩
abbrev cX5_doFormsTellLikeness : ByteArray := prog_1_method_76_code
def yX5_doFormsTellLikeness : MethodName := ⟨RX5, "doFormsTellLikeness", "()Z"⟩
abbrev cX5_areWarpsSound : ByteArray := prog_1_method_77_code
def yX5_areWarpsSound : MethodName := ⟨RX5, "areWarpsSound", "()Z"⟩
abbrev cX5_areParentsSound : ByteArray := prog_1_method_78_code
def yX5_areParentsSound : MethodName := ⟨RX5, "areParentsSound", "()Z"⟩
def RX6 : String := "SettbookModel$Copy"
def TX6 : u_T := fun k => match k with
  | 0 => ("SettbookModel$Copy", "sett", "I", true)
  | _ => ("SettbookModel$Copy", "counts", "[I", true)
def tyX6 : Nat → FieldType := fun k => match k with
  | 0 => .int
  | _ => .array .int
abbrev wsX60 : List Cond := u_ws RX6 TX6 2
theorem nmX6 : ∀ a, a < 2 → ∀ b, b < 2 → a ≠ b → (TX6 a).2.1 ≠ (TX6 b).2.1 := by decide +kernel
theorem tyX6_ok : ∀ k, k < 2 → parseFieldDescriptor (TX6 k).2.2.1 = some (tyX6 k) := by decide +kernel
abbrev cX6_init : ByteArray := prog_9_method_1_code
def yX6_init : MethodName := ⟨RX6, "<init>", "(ILjava/util/List;)V"⟩
def RX7 : String := "SettbookModel$Sett"
def TX7 : u_T := fun k => match k with
  | 0 => ("SettbookModel$Sett", "told", "Ljava/util/List;", true)
  | 1 => ("SettbookModel$Sett", "mirrored", "Z", true)
  | 2 => ("SettbookModel$Sett", "consents", "[Z", true)
  | 3 => ("SettbookModel$Sett", "kind", "C", false)
  | 4 => ("SettbookModel$Sett", "owner", "I", false)
  | 5 => ("SettbookModel$Sett", "proof", "I", false)
  | _ => ("SettbookModel$Sett", "withdrawn", "Z", false)
def tyX7 : Nat → FieldType := fun k => match k with
  | 0 => .object "java/util/List"
  | 1 => .boolean
  | 2 => .array .boolean
  | 3 => .char
  | 4 => .int
  | 5 => .int
  | _ => .boolean
abbrev wsX70 : List Cond := u_ws RX7 TX7 7
theorem nmX7 : ∀ a, a < 7 → ∀ b, b < 7 → a ≠ b → (TX7 a).2.1 ≠ (TX7 b).2.1 := by decide +kernel
theorem tyX7_ok : ∀ k, k < 7 → parseFieldDescriptor (TX7 k).2.2.1 = some (tyX7 k) := by decide +kernel
abbrev cX7_init : ByteArray := prog_10_method_1_code
def yX7_init : MethodName := ⟨RX7, "<init>", "(Ljava/util/List;Z)V"⟩
abbrev cX7_round : ByteArray := prog_10_method_2_code
def yX7_round : MethodName := ⟨RX7, "round", "()Ljava/util/List;"⟩
abbrev cX7_threads : ByteArray := prog_10_method_3_code
def yX7_threads : MethodName := ⟨RX7, "threads", "()I"⟩
abbrev cX7_turned : ByteArray := prog_10_method_4_code
def yX7_turned : MethodName := ⟨RX7, "turned", "(IZ)Ljava/util/List;"⟩
abbrev cX7_shadeAt : ByteArray := prog_10_method_5_code
def yX7_shadeAt : MethodName := ⟨RX7, "shadeAt", "(I)I"⟩
def RX8 : String := "SettbookModel$Stripe"
def TX8 : u_T := fun k => match k with
  | 0 => ("SettbookModel$Stripe", "shade", "I", true)
  | _ => ("SettbookModel$Stripe", "count", "I", true)
def tyX8 : Nat → FieldType := fun k => match k with
  | 0 => .int
  | _ => .int
abbrev wsX80 : List Cond := u_ws RX8 TX8 2
theorem nmX8 : ∀ a, a < 2 → ∀ b, b < 2 → a ≠ b → (TX8 a).2.1 ≠ (TX8 b).2.1 := by decide +kernel
theorem tyX8_ok : ∀ k, k < 2 → parseFieldDescriptor (TX8 k).2.2.1 = some (tyX8 k) := by decide +kernel
abbrev cX8_init : ByteArray := prog_11_method_1_code
def yX8_init : MethodName := ⟨RX8, "<init>", "(II)V"⟩
abbrev cX8_isLike : ByteArray := prog_11_method_2_code
def yX8_isLike : MethodName := ⟨RX8, "isLike", "(LSettbookModel$Stripe;)Z"⟩
def RX9 : String := "SettbookModel"
def TX9 : u_T := fun k => match k with
  | 0 => ("SettbookModel", "shades", "Ljava/util/List;", true)
  | 1 => ("SettbookModel", "row", "Ljava/util/List;", true)
  | 2 => ("SettbookModel", "setts", "Ljava/util/List;", true)
  | 3 => ("SettbookModel", "warps", "Ljava/util/List;", true)
  | 4 => ("SettbookModel", "orders", "Ljava/util/List;", true)
  | 5 => ("SettbookModel", "copies", "Ljava/util/List;", true)
  | 6 => ("SettbookModel", "ruling", "I", false)
  | 7 => ("SettbookModel", "loss", "I", false)
  | 8 => ("SettbookModel", "waste", "I", false)
  | _ => ("SettbookModel", "thrown", "I", false)
def tyX9 : Nat → FieldType := fun k => match k with
  | 0 => .object "java/util/List"
  | 1 => .object "java/util/List"
  | 2 => .object "java/util/List"
  | 3 => .object "java/util/List"
  | 4 => .object "java/util/List"
  | 5 => .object "java/util/List"
  | 6 => .int
  | 7 => .int
  | 8 => .int
  | _ => .int
abbrev wsX90 : List Cond := u_ws RX9 TX9 10
theorem nmX9 : ∀ a, a < 10 → ∀ b, b < 10 → a ≠ b → (TX9 a).2.1 ≠ (TX9 b).2.1 := by decide +kernel
theorem tyX9_ok : ∀ k, k < 10 → parseFieldDescriptor (TX9 k).2.2.1 = some (tyX9 k) := by decide +kernel
abbrev cX9_init : ByteArray := prog_8_method_1_code
def yX9_init : MethodName := ⟨RX9, "<init>", "()V"⟩
abbrev cX9_thrown : ByteArray := prog_8_method_2_code
def yX9_thrown : MethodName := ⟨RX9, "thrown", "()I"⟩
abbrev cX9_no : ByteArray := prog_8_method_3_code
def yX9_no : MethodName := ⟨RX9, "no", "(ZI)Z"⟩
abbrev cX9_isIn : ByteArray := prog_8_method_4_code
def yX9_isIn : MethodName := ⟨RX9, "isIn", "(III)Z"⟩
abbrev cX9_isShade : ByteArray := prog_8_method_5_code
def yX9_isShade : MethodName := ⟨RX9, "isShade", "(I)Z"⟩
abbrev cX9_isSett : ByteArray := prog_8_method_6_code
def yX9_isSett : MethodName := ⟨RX9, "isSett", "(I)Z"⟩
abbrev cX9_addShade : ByteArray := prog_8_method_7_code
def yX9_addShade : MethodName := ⟨RX9, "addShade", "(CIII)I"⟩
abbrev cX9_getPart : ByteArray := prog_8_method_8_code
def yX9_getPart : MethodName := ⟨RX9, "getPart", "(ICI)I"⟩
abbrev cX9_apart : ByteArray := prog_8_method_9_code
def yX9_apart : MethodName := ⟨RX9, "apart", "(II)I"⟩
abbrev cX9_shadeDistance : ByteArray := prog_8_method_10_code
def yX9_shadeDistance : MethodName := ⟨RX9, "shadeDistance", "(II)I"⟩
abbrev cX9_addStripe : ByteArray := prog_8_method_11_code
def yX9_addStripe : MethodName := ⟨RX9, "addStripe", "(II)I"⟩
abbrev cX9_clearStripes : ByteArray := prog_8_method_12_code
def yX9_clearStripes : MethodName := ⟨RX9, "clearStripes", "()I"⟩
abbrev cX9_makeSett : ByteArray := prog_8_method_13_code
def yX9_makeSett : MethodName := ⟨RX9, "makeSett", "(Z)I"⟩
abbrev cX9_getThreads : ByteArray := prog_8_method_14_code
def yX9_getThreads : MethodName := ⟨RX9, "getThreads", "(I)I"⟩
abbrev cX9_countStripes : ByteArray := prog_8_method_15_code
def yX9_countStripes : MethodName := ⟨RX9, "countStripes", "(I)I"⟩
abbrev cX9_noStripe : ByteArray := prog_8_method_16_code
def yX9_noStripe : MethodName := ⟨RX9, "noStripe", "(II)Z"⟩
abbrev cX9_getShade : ByteArray := prog_8_method_17_code
def yX9_getShade : MethodName := ⟨RX9, "getShade", "(II)I"⟩
abbrev cX9_getCount : ByteArray := prog_8_method_18_code
def yX9_getCount : MethodName := ⟨RX9, "getCount", "(II)I"⟩
abbrev cX9_isAhead : ByteArray := prog_8_method_19_code
def yX9_isAhead : MethodName := ⟨RX9, "isAhead", "(Ljava/util/List;Ljava/util/List;)Z"⟩
abbrev cX9_form : ByteArray := prog_8_method_20_code
def yX9_form : MethodName := ⟨RX9, "form", "(LSettbookModel$Sett;)Ljava/util/List;"⟩
abbrev cX9_formShade : ByteArray := prog_8_method_21_code
def yX9_formShade : MethodName := ⟨RX9, "formShade", "(II)I"⟩
abbrev cX9_formCount : ByteArray := prog_8_method_22_code
def yX9_formCount : MethodName := ⟨RX9, "formCount", "(II)I"⟩
abbrev cX9_alike : ByteArray := prog_8_method_23_code
def yX9_alike : MethodName := ⟨RX9, "alike", "(II)Z"⟩
abbrev cX9_isAlike : ByteArray := prog_8_method_24_code
def yX9_isAlike : MethodName := ⟨RX9, "isAlike", "(II)Z"⟩
abbrev cX9_lowestAlike : ByteArray := prog_8_method_25_code
def yX9_lowestAlike : MethodName := ⟨RX9, "lowestAlike", "(I)I"⟩
abbrev cX9_shadeOf : ByteArray := prog_8_method_26_code
def yX9_shadeOf : MethodName := ⟨RX9, "shadeOf", "(II)I"⟩
abbrev cX9_getShare : ByteArray := prog_8_method_27_code
def yX9_getShare : MethodName := ⟨RX9, "getShare", "(II)I"⟩
abbrev cX9_meanPart : ByteArray := prog_8_method_28_code
def yX9_meanPart : MethodName := ⟨RX9, "meanPart", "(II)I"⟩
abbrev cX9_joins : ByteArray := prog_8_method_29_code
def yX9_joins : MethodName := ⟨RX9, "joins", "(III)Z"⟩
abbrev cX9_over : ByteArray := prog_8_method_30_code
def yX9_over : MethodName := ⟨RX9, "over", "(III)I"⟩
abbrev cX9_scale : ByteArray := prog_8_method_31_code
def yX9_scale : MethodName := ⟨RX9, "scale", "(III)I"⟩
abbrev cX9_getLoss : ByteArray := prog_8_method_32_code
def yX9_getLoss : MethodName := ⟨RX9, "getLoss", "()I"⟩
abbrev cX9_twillAt : ByteArray := prog_8_method_33_code
def yX9_twillAt : MethodName := ⟨RX9, "twillAt", "(III)I"⟩
abbrev cX9_far : ByteArray := prog_8_method_34_code
def yX9_far : MethodName := ⟨RX9, "far", "(II)I"⟩
abbrev cX9_distance : ByteArray := prog_8_method_35_code
def yX9_distance : MethodName := ⟨RX9, "distance", "(II)I"⟩
abbrev cX9_setRuling : ByteArray := prog_8_method_36_code
def yX9_setRuling : MethodName := ⟨RX9, "setRuling", "(I)I"⟩
abbrev cX9_isRegistered : ByteArray := prog_8_method_37_code
def yX9_isRegistered : MethodName := ⟨RX9, "isRegistered", "(I)Z"⟩
abbrev cX9_register : ByteArray := prog_8_method_38_code
def yX9_register : MethodName := ⟨RX9, "register", "(ICII)I"⟩
abbrev cX9_goesAhead : ByteArray := prog_8_method_39_code
def yX9_goesAhead : MethodName := ⟨RX9, "goesAhead", "(II)Z"⟩
abbrev cX9_contester : ByteArray := prog_8_method_40_code
def yX9_contester : MethodName := ⟨RX9, "contester", "(I)I"⟩
abbrev cX9_withdraw : ByteArray := prog_8_method_41_code
def yX9_withdraw : MethodName := ⟨RX9, "withdraw", "(I)Z"⟩
abbrev cX9_isContested : ByteArray := prog_8_method_42_code
def yX9_isContested : MethodName := ⟨RX9, "isContested", "(I)Z"⟩
abbrev cX9_contestedBy : ByteArray := prog_8_method_43_code
def yX9_contestedBy : MethodName := ⟨RX9, "contestedBy", "(I)I"⟩
abbrev cX9_consent : ByteArray := prog_8_method_44_code
def yX9_consent : MethodName := ⟨RX9, "consent", "(II)Z"⟩
abbrev cX9_right : ByteArray := prog_8_method_45_code
def yX9_right : MethodName := ⟨RX9, "right", "(I)I"⟩
abbrev cX9_may : ByteArray := prog_8_method_46_code
def yX9_may : MethodName := ⟨RX9, "may", "(II)Z"⟩
abbrev cX9_mayWeave : ByteArray := prog_8_method_47_code
def yX9_mayWeave : MethodName := ⟨RX9, "mayWeave", "(II)Z"⟩
abbrev cX9_rightOf : ByteArray := prog_8_method_48_code
def yX9_rightOf : MethodName := ⟨RX9, "rightOf", "(I)I"⟩
abbrev cX9_noPleat : ByteArray := prog_8_method_49_code
def yX9_noPleat : MethodName := ⟨RX9, "noPleat", "(IZIII)Z"⟩
abbrev cX9_firstSeen : ByteArray := prog_8_method_50_code
def yX9_firstSeen : MethodName := ⟨RX9, "firstSeen", "(IZIII)I"⟩
abbrev cX9_pleatShade : ByteArray := prog_8_method_51_code
def yX9_pleatShade : MethodName := ⟨RX9, "pleatShade", "(IZIIII)I"⟩
abbrev cX9_isPlain : ByteArray := prog_8_method_52_code
def yX9_isPlain : MethodName := ⟨RX9, "isPlain", "(IZIII)Z"⟩
abbrev cX9_threadsUsed : ByteArray := prog_8_method_53_code
def yX9_threadsUsed : MethodName := ⟨RX9, "threadsUsed", "(IZII)I"⟩
abbrev cX9_order : ByteArray := prog_8_method_54_code
def yX9_order : MethodName := ⟨RX9, "order", "(III)I"⟩
abbrev cX9_warpOf : ByteArray := prog_8_method_55_code
def yX9_warpOf : MethodName := ⟨RX9, "warpOf", "(I)I"⟩
abbrev cX9_left : ByteArray := prog_8_method_56_code
def yX9_left : MethodName := ⟨RX9, "left", "(I)I"⟩
abbrev cX9_cut : ByteArray := prog_8_method_57_code
def yX9_cut : MethodName := ⟨RX9, "cut", "()I"⟩
abbrev cX9_getWaste : ByteArray := prog_8_method_58_code
def yX9_getWaste : MethodName := ⟨RX9, "getWaste", "()I"⟩
abbrev cX9_addCopy : ByteArray := prog_8_method_59_code
def yX9_addCopy : MethodName := ⟨RX9, "addCopy", "(I)I"⟩
abbrev cX9_isCopy : ByteArray := prog_8_method_60_code
def yX9_isCopy : MethodName := ⟨RX9, "isCopy", "(I)Z"⟩
abbrev cX9_errs : ByteArray := prog_8_method_61_code
def yX9_errs : MethodName := ⟨RX9, "errs", "(LSettbookModel$Copy;I)Z"⟩
abbrev cX9_miscopy : ByteArray := prog_8_method_62_code
def yX9_miscopy : MethodName := ⟨RX9, "miscopy", "(III)I"⟩
abbrev cX9_parent : ByteArray := prog_8_method_63_code
def yX9_parent : MethodName := ⟨RX9, "parent", "(I)I"⟩
abbrev cX9_parentOf : ByteArray := prog_8_method_64_code
def yX9_parentOf : MethodName := ⟨RX9, "parentOf", "(I)I"⟩
abbrev cX9_depth : ByteArray := prog_8_method_65_code
def yX9_depth : MethodName := ⟨RX9, "depth", "(I)I"⟩
abbrev cX9_fits : ByteArray := prog_8_method_66_code
def yX9_fits : MethodName := ⟨RX9, "fits", "(LSettbookModel$Sett;)Z"⟩
abbrev cX9_fits_ : ByteArray := prog_8_method_67_code
def yX9_fits_ : MethodName := ⟨RX9, "fits", "(I)Z"⟩
abbrev cX9_countFits : ByteArray := prog_8_method_68_code
def yX9_countFits : MethodName := ⟨RX9, "countFits", "()I"⟩
abbrev cX9_checksum : ByteArray := prog_8_method_69_code
def yX9_checksum : MethodName := ⟨RX9, "checksum", "()J"⟩
abbrev cX9_contestedShare : ByteArray := prog_8_method_70_code
def yX9_contestedShare : MethodName := ⟨RX9, "contestedShare", "()F"⟩
abbrev cX9_meanThreads : ByteArray := prog_8_method_71_code
def yX9_meanThreads : MethodName := ⟨RX9, "meanThreads", "()D"⟩
abbrev cX9_isSound : ByteArray := prog_8_method_72_code
def yX9_isSound : MethodName := ⟨RX9, "isSound", "()Z"⟩
def RJx145de : String := "java/io/Serializable"
def TJx145de : u_T := fun k => match k with
  | _ => ("", "", "", false)
def tyJx145de : Nat → FieldType := fun k => match k with
  | _ => .int
abbrev wsJx145de0 : List Cond := u_ws RJx145de TJx145de 0
theorem nmJx145de : ∀ a, a < 0 → ∀ b, b < 0 → a ≠ b → (TJx145de a).2.1 ≠ (TJx145de b).2.1 := by decide +kernel
theorem tyJx145de_ok : ∀ k, k < 0 → parseFieldDescriptor (TJx145de k).2.2.1 = some (tyJx145de k) := by decide +kernel
def RJx00060 : String := "java/lang/ArrayIndexOutOfBoundsException"
def TJx00060 : u_T := fun k => match k with
  | 0 => ("java/lang/Throwable", "backtrace", "Ljava/lang/Object;", false)
  | 1 => ("java/lang/Throwable", "detailMessage", "Ljava/lang/String;", false)
  | 2 => ("java/lang/Throwable", "cause", "Ljava/lang/Throwable;", false)
  | 3 => ("java/lang/Throwable", "stackTrace", "[Ljava/lang/StackTraceElement;", false)
  | 4 => ("java/lang/Throwable", "depth", "I", false)
  | _ => ("java/lang/Throwable", "suppressedExceptions", "Ljava/util/List;", false)
def tyJx00060 : Nat → FieldType := fun k => match k with
  | 0 => .object "java/lang/Object"
  | 1 => .object "java/lang/String"
  | 2 => .object "java/lang/Throwable"
  | 3 => .array (.object "java/lang/StackTraceElement")
  | 4 => .int
  | _ => .object "java/util/List"
abbrev wsJx000600 : List Cond := u_ws RJx00060 TJx00060 6
theorem nmJx00060 : ∀ a, a < 6 → ∀ b, b < 6 → a ≠ b → (TJx00060 a).2.1 ≠ (TJx00060 b).2.1 := by decide +kernel
theorem tyJx00060_ok : ∀ k, k < 6 → parseFieldDescriptor (TJx00060 k).2.2.1 = some (tyJx00060 k) := by decide +kernel
abbrev cJx00060_init_a7421 : ByteArray := prog_14_method_2_code
def yJx00060_init_a7421 : MethodName := ⟨RJx00060, "<init>", "(Ljava/lang/String;)V"⟩
def RJx8e188 : String := "java/lang/Cloneable"
def TJx8e188 : u_T := fun k => match k with
  | _ => ("", "", "", false)
def tyJx8e188 : Nat → FieldType := fun k => match k with
  | _ => .int
abbrev wsJx8e1880 : List Cond := u_ws RJx8e188 TJx8e188 0
theorem nmJx8e188 : ∀ a, a < 0 → ∀ b, b < 0 → a ≠ b → (TJx8e188 a).2.1 ≠ (TJx8e188 b).2.1 := by decide +kernel
theorem tyJx8e188_ok : ∀ k, k < 0 → parseFieldDescriptor (TJx8e188 k).2.2.1 = some (tyJx8e188 k) := by decide +kernel
def RJxb160c : String := "java/lang/Comparable"
def TJxb160c : u_T := fun k => match k with
  | _ => ("", "", "", false)
def tyJxb160c : Nat → FieldType := fun k => match k with
  | _ => .int
abbrev wsJxb160c0 : List Cond := u_ws RJxb160c TJxb160c 0
theorem nmJxb160c : ∀ a, a < 0 → ∀ b, b < 0 → a ≠ b → (TJxb160c a).2.1 ≠ (TJxb160c b).2.1 := by decide +kernel
theorem tyJxb160c_ok : ∀ k, k < 0 → parseFieldDescriptor (TJxb160c k).2.2.1 = some (tyJxb160c k) := by decide +kernel
def RJxabbfe : String := "java/lang/Integer$IntegerCache"
def TJxabbfe : u_T := fun k => match k with
  | _ => ("", "", "", false)
def tyJxabbfe : Nat → FieldType := fun k => match k with
  | _ => .int
abbrev wsJxabbfe0 : List Cond := u_ws RJxabbfe TJxabbfe 0
theorem nmJxabbfe : ∀ a, a < 0 → ∀ b, b < 0 → a ≠ b → (TJxabbfe a).2.1 ≠ (TJxabbfe b).2.1 := by decide +kernel
theorem tyJxabbfe_ok : ∀ k, k < 0 → parseFieldDescriptor (TJxabbfe k).2.2.1 = some (tyJxabbfe k) := by decide +kernel
def RJ6 : String := "java/lang/Integer"
def TJ6 : u_T := fun k => match k with
  | _ => ("java/lang/Integer", "value", "I", true)
def tyJ6 : Nat → FieldType := fun k => match k with
  | _ => .int
abbrev wsJ60 : List Cond := u_ws RJ6 TJ6 1
theorem nmJ6 : ∀ a, a < 1 → ∀ b, b < 1 → a ≠ b → (TJ6 a).2.1 ≠ (TJ6 b).2.1 := by decide +kernel
theorem tyJ6_ok : ∀ k, k < 1 → parseFieldDescriptor (TJ6 k).2.2.1 = some (tyJ6 k) := by decide +kernel
abbrev cJ6_valueOf_2dffe : ByteArray := prog_21_method_22_code
def yJ6_valueOf_2dffe : MethodName := ⟨RJ6, "valueOf", "(I)Ljava/lang/Integer;"⟩
abbrev cJ6_init_d00df : ByteArray := prog_21_method_23_code
def yJ6_init_d00df : MethodName := ⟨RJ6, "<init>", "(I)V"⟩
abbrev cJ6_intValue_8abf5 : ByteArray := prog_21_method_27_code
def yJ6_intValue_8abf5 : MethodName := ⟨RJ6, "intValue", "()I"⟩
def RJxab1ab : String := "java/lang/Iterable"
def TJxab1ab : u_T := fun k => match k with
  | _ => ("", "", "", false)
def tyJxab1ab : Nat → FieldType := fun k => match k with
  | _ => .int
abbrev wsJxab1ab0 : List Cond := u_ws RJxab1ab TJxab1ab 0
theorem nmJxab1ab : ∀ a, a < 0 → ∀ b, b < 0 → a ≠ b → (TJxab1ab a).2.1 ≠ (TJxab1ab b).2.1 := by decide +kernel
theorem tyJxab1ab_ok : ∀ k, k < 0 → parseFieldDescriptor (TJxab1ab k).2.2.1 = some (tyJxab1ab k) := by decide +kernel
def RJ9 : String := "java/lang/Math"
def TJ9 : u_T := fun k => match k with
  | _ => ("", "", "", false)
def tyJ9 : Nat → FieldType := fun k => match k with
  | _ => .int
abbrev wsJ90 : List Cond := u_ws RJ9 TJ9 0
theorem nmJ9 : ∀ a, a < 0 → ∀ b, b < 0 → a ≠ b → (TJ9 a).2.1 ≠ (TJ9 b).2.1 := by decide +kernel
theorem tyJ9_ok : ∀ k, k < 0 → parseFieldDescriptor (TJ9 k).2.2.1 = some (tyJ9 k) := by decide +kernel
abbrev cJ9_floorMod_7cf53 : ByteArray := prog_24_method_50_code
def yJ9_floorMod_7cf53 : MethodName := ⟨RJ9, "floorMod", "(II)I"⟩
abbrev cJ9_abs_0f7a4 : ByteArray := prog_24_method_59_code
def yJ9_abs_0f7a4 : MethodName := ⟨RJ9, "abs", "(I)I"⟩
abbrev cJ9_max_7cf53 : ByteArray := prog_24_method_65_code
def yJ9_max_7cf53 : MethodName := ⟨RJ9, "max", "(II)I"⟩
abbrev cJ9_min_7cf53 : ByteArray := prog_24_method_69_code
def yJ9_min_7cf53 : MethodName := ⟨RJ9, "min", "(II)I"⟩
def RJxd2413 : String := "java/lang/Number"
def TJxd2413 : u_T := fun k => match k with
  | _ => ("", "", "", false)
def tyJxd2413 : Nat → FieldType := fun k => match k with
  | _ => .int
abbrev wsJxd24130 : List Cond := u_ws RJxd2413 TJxd2413 0
theorem nmJxd2413 : ∀ a, a < 0 → ∀ b, b < 0 → a ≠ b → (TJxd2413 a).2.1 ≠ (TJxd2413 b).2.1 := by decide +kernel
theorem tyJxd2413_ok : ∀ k, k < 0 → parseFieldDescriptor (TJxd2413 k).2.2.1 = some (tyJxd2413 k) := by decide +kernel
abbrev cJxd2413_init_da8c8 : ByteArray := prog_25_method_1_code
def yJxd2413_init_da8c8 : MethodName := ⟨RJxd2413, "<init>", "()V"⟩
def RJ0 : String := "java/lang/String"
def TJ0 : u_T := fun k => match k with
  | 0 => ("java/lang/String", "value", "[B", true)
  | _ => ("java/lang/String", "coder", "B", true)
def tyJ0 : Nat → FieldType := fun k => match k with
  | 0 => .array .byte
  | _ => .byte
abbrev wsJ00 : List Cond := u_ws RJ0 TJ0 2
theorem nmJ0 : ∀ a, a < 2 → ∀ b, b < 2 → a ≠ b → (TJ0 a).2.1 ≠ (TJ0 b).2.1 := by decide +kernel
theorem tyJ0_ok : ∀ k, k < 2 → parseFieldDescriptor (TJ0 k).2.2.1 = some (tyJ0 k) := by decide +kernel
def RJ10 : String := "java/lang/System"
def TJ10 : u_T := fun k => match k with
  | _ => ("", "", "", false)
def tyJ10 : Nat → FieldType := fun k => match k with
  | _ => .int
abbrev wsJ100 : List Cond := u_ws RJ10 TJ10 0
theorem nmJ10 : ∀ a, a < 0 → ∀ b, b < 0 → a ≠ b → (TJ10 a).2.1 ≠ (TJ10 b).2.1 := by decide +kernel
theorem tyJ10_ok : ∀ k, k < 0 → parseFieldDescriptor (TJ10 k).2.2.1 = some (tyJ10 k) := by decide +kernel
def RJxfd54e : String := "java/lang/constant/Constable"
def TJxfd54e : u_T := fun k => match k with
  | _ => ("", "", "", false)
def tyJxfd54e : Nat → FieldType := fun k => match k with
  | _ => .int
abbrev wsJxfd54e0 : List Cond := u_ws RJxfd54e TJxfd54e 0
theorem nmJxfd54e : ∀ a, a < 0 → ∀ b, b < 0 → a ≠ b → (TJxfd54e a).2.1 ≠ (TJxfd54e b).2.1 := by decide +kernel
theorem tyJxfd54e_ok : ∀ k, k < 0 → parseFieldDescriptor (TJxfd54e k).2.2.1 = some (tyJxfd54e k) := by decide +kernel
def RJx3cf43 : String := "java/lang/constant/ConstantDesc"
def TJx3cf43 : u_T := fun k => match k with
  | _ => ("", "", "", false)
def tyJx3cf43 : Nat → FieldType := fun k => match k with
  | _ => .int
abbrev wsJx3cf430 : List Cond := u_ws RJx3cf43 TJx3cf43 0
theorem nmJx3cf43 : ∀ a, a < 0 → ∀ b, b < 0 → a ≠ b → (TJx3cf43 a).2.1 ≠ (TJx3cf43 b).2.1 := by decide +kernel
theorem tyJx3cf43_ok : ∀ k, k < 0 → parseFieldDescriptor (TJx3cf43 k).2.2.1 = some (tyJx3cf43 k) := by decide +kernel
def RJxa1e45 : String := "java/util/AbstractCollection"
def TJxa1e45 : u_T := fun k => match k with
  | _ => ("", "", "", false)
def tyJxa1e45 : Nat → FieldType := fun k => match k with
  | _ => .int
abbrev wsJxa1e450 : List Cond := u_ws RJxa1e45 TJxa1e45 0
theorem nmJxa1e45 : ∀ a, a < 0 → ∀ b, b < 0 → a ≠ b → (TJxa1e45 a).2.1 ≠ (TJxa1e45 b).2.1 := by decide +kernel
theorem tyJxa1e45_ok : ∀ k, k < 0 → parseFieldDescriptor (TJxa1e45 k).2.2.1 = some (tyJxa1e45 k) := by decide +kernel
abbrev cJxa1e45_init_da8c8 : ByteArray := prog_33_method_1_code
def yJxa1e45_init_da8c8 : MethodName := ⟨RJxa1e45, "<init>", "()V"⟩
def RJxc12de : String := "java/util/AbstractList"
def TJxc12de : u_T := fun k => match k with
  | _ => ("", "", "", false)
def tyJxc12de : Nat → FieldType := fun k => match k with
  | _ => .int
abbrev wsJxc12de0 : List Cond := u_ws RJxc12de TJxc12de 0
theorem nmJxc12de : ∀ a, a < 0 → ∀ b, b < 0 → a ≠ b → (TJxc12de a).2.1 ≠ (TJxc12de b).2.1 := by decide +kernel
theorem tyJxc12de_ok : ∀ k, k < 0 → parseFieldDescriptor (TJxc12de k).2.2.1 = some (tyJxc12de k) := by decide +kernel
abbrev cJxc12de_init_da8c8 : ByteArray := prog_34_method_1_code
def yJxc12de_init_da8c8 : MethodName := ⟨RJxc12de, "<init>", "()V"⟩
def RJx35411 : String := "java/util/ArrayList$Itr"
def TJx35411 : u_T := fun k => match k with
  | 0 => ("java/util/ArrayList$Itr", "cursor", "I", false)
  | 1 => ("java/util/ArrayList$Itr", "lastRet", "I", false)
  | 2 => ("java/util/ArrayList$Itr", "expectedModCount", "I", false)
  | _ => ("java/util/ArrayList$Itr", "this$0", "Ljava/util/ArrayList;", true)
def tyJx35411 : Nat → FieldType := fun k => match k with
  | 0 => .int
  | 1 => .int
  | 2 => .int
  | _ => .object "java/util/ArrayList"
abbrev wsJx354110 : List Cond := u_ws RJx35411 TJx35411 4
theorem nmJx35411 : ∀ a, a < 4 → ∀ b, b < 4 → a ≠ b → (TJx35411 a).2.1 ≠ (TJx35411 b).2.1 := by decide +kernel
theorem tyJx35411_ok : ∀ k, k < 4 → parseFieldDescriptor (TJx35411 k).2.2.1 = some (tyJx35411 k) := by decide +kernel
abbrev cJx35411_init_45d68 : ByteArray := prog_36_method_1_code
def yJx35411_init_45d68 : MethodName := ⟨RJx35411, "<init>", "(Ljava/util/ArrayList;)V"⟩
abbrev cJx35411_hasNext_aae02 : ByteArray := prog_36_method_2_code
def yJx35411_hasNext_aae02 : MethodName := ⟨RJx35411, "hasNext", "()Z"⟩
abbrev cJx35411_next_0502b : ByteArray := prog_36_method_3_code
def yJx35411_next_0502b : MethodName := ⟨RJx35411, "next", "()Ljava/lang/Object;"⟩
abbrev cJx35411_checkForComodification_da8c8 : ByteArray := prog_36_method_6_code
def yJx35411_checkForComodification_da8c8 : MethodName := ⟨RJx35411, "checkForComodification", "()V"⟩
def RJx4a65c : String := "java/util/ArrayList"
def TJx4a65c : u_T := fun k => match k with
  | 0 => ("java/util/AbstractList", "modCount", "I", false)
  | 1 => ("java/util/ArrayList", "elementData", "[Ljava/lang/Object;", false)
  | _ => ("java/util/ArrayList", "size", "I", false)
def tyJx4a65c : Nat → FieldType := fun k => match k with
  | 0 => .int
  | 1 => .array (.object "java/lang/Object")
  | _ => .int
abbrev wsJx4a65c0 : List Cond := u_ws RJx4a65c TJx4a65c 3
theorem nmJx4a65c : ∀ a, a < 3 → ∀ b, b < 3 → a ≠ b → (TJx4a65c a).2.1 ≠ (TJx4a65c b).2.1 := by decide +kernel
theorem tyJx4a65c_ok : ∀ k, k < 3 → parseFieldDescriptor (TJx4a65c k).2.2.1 = some (tyJx4a65c k) := by decide +kernel
abbrev cJx4a65c_init_da8c8 : ByteArray := prog_35_method_2_code
def yJx4a65c_init_da8c8 : MethodName := ⟨RJx4a65c, "<init>", "()V"⟩
abbrev cJx4a65c_init_4bcb3 : ByteArray := prog_35_method_3_code
def yJx4a65c_init_4bcb3 : MethodName := ⟨RJx4a65c, "<init>", "(Ljava/util/Collection;)V"⟩
abbrev cJx4a65c_grow_92f84 : ByteArray := prog_35_method_6_code
def yJx4a65c_grow_92f84 : MethodName := ⟨RJx4a65c, "grow", "(I)[Ljava/lang/Object;"⟩
abbrev cJx4a65c_grow_d5877 : ByteArray := prog_35_method_7_code
def yJx4a65c_grow_d5877 : MethodName := ⟨RJx4a65c, "grow", "()[Ljava/lang/Object;"⟩
abbrev cJx4a65c_size_8abf5 : ByteArray := prog_35_method_8_code
def yJx4a65c_size_8abf5 : MethodName := ⟨RJx4a65c, "size", "()I"⟩
abbrev cJx4a65c_isEmpty_aae02 : ByteArray := prog_35_method_9_code
def yJx4a65c_isEmpty_aae02 : MethodName := ⟨RJx4a65c, "isEmpty", "()Z"⟩
abbrev cJx4a65c_toArray_d5877 : ByteArray := prog_35_method_16_code
def yJx4a65c_toArray_d5877 : MethodName := ⟨RJx4a65c, "toArray", "()[Ljava/lang/Object;"⟩
abbrev cJx4a65c_elementData_915e3 : ByteArray := prog_35_method_18_code
def yJx4a65c_elementData_915e3 : MethodName := ⟨RJx4a65c, "elementData", "(I)Ljava/lang/Object;"⟩
abbrev cJx4a65c_get_915e3 : ByteArray := prog_35_method_20_code
def yJx4a65c_get_915e3 : MethodName := ⟨RJx4a65c, "get", "(I)Ljava/lang/Object;"⟩
abbrev cJx4a65c_add_72be8 : ByteArray := prog_35_method_24_code
def yJx4a65c_add_72be8 : MethodName := ⟨RJx4a65c, "add", "(Ljava/lang/Object;[Ljava/lang/Object;I)V"⟩
abbrev cJx4a65c_add_9ea2d : ByteArray := prog_35_method_25_code
def yJx4a65c_add_9ea2d : MethodName := ⟨RJx4a65c, "add", "(Ljava/lang/Object;)Z"⟩
abbrev cJx4a65c_clear_da8c8 : ByteArray := prog_35_method_40_code
def yJx4a65c_clear_da8c8 : MethodName := ⟨RJx4a65c, "clear", "()V"⟩
abbrev cJx4a65c_iterator_32c93 : ByteArray := prog_35_method_55_code
def yJx4a65c_iterator_32c93 : MethodName := ⟨RJx4a65c, "iterator", "()Ljava/util/Iterator;"⟩
def RJ7 : String := "java/util/Arrays"
def TJ7 : u_T := fun k => match k with
  | _ => ("", "", "", false)
def tyJ7 : Nat → FieldType := fun k => match k with
  | _ => .int
abbrev wsJ70 : List Cond := u_ws RJ7 TJ7 0
theorem nmJ7 : ∀ a, a < 0 → ∀ b, b < 0 → a ≠ b → (TJ7 a).2.1 ≠ (TJ7 b).2.1 := by decide +kernel
theorem tyJ7_ok : ∀ k, k < 0 → parseFieldDescriptor (TJ7 k).2.2.1 = some (tyJ7 k) := by decide +kernel
abbrev cJ7_copyOf_1904c : ByteArray := prog_37_method_119_code
def yJ7_copyOf_1904c : MethodName := ⟨RJ7, "copyOf", "([Ljava/lang/Object;I)[Ljava/lang/Object;"⟩
abbrev cJ7_copyOf_6403c : ByteArray := prog_37_method_120_code
def yJ7_copyOf_6403c : MethodName := ⟨RJ7, "copyOf", "([Ljava/lang/Object;ILjava/lang/Class;)[Ljava/lang/Object;"⟩
def RJx5ef63 : String := "java/util/Collection"
def TJx5ef63 : u_T := fun k => match k with
  | _ => ("", "", "", false)
def tyJx5ef63 : Nat → FieldType := fun k => match k with
  | _ => .int
abbrev wsJx5ef630 : List Cond := u_ws RJx5ef63 TJx5ef63 0
theorem nmJx5ef63 : ∀ a, a < 0 → ∀ b, b < 0 → a ≠ b → (TJx5ef63 a).2.1 ≠ (TJx5ef63 b).2.1 := by decide +kernel
theorem tyJx5ef63_ok : ∀ k, k < 0 → parseFieldDescriptor (TJx5ef63 k).2.2.1 = some (tyJx5ef63 k) := by decide +kernel
def RJx4d0d8 : String := "java/util/Iterator"
def TJx4d0d8 : u_T := fun k => match k with
  | _ => ("", "", "", false)
def tyJx4d0d8 : Nat → FieldType := fun k => match k with
  | _ => .int
abbrev wsJx4d0d80 : List Cond := u_ws RJx4d0d8 TJx4d0d8 0
theorem nmJx4d0d8 : ∀ a, a < 0 → ∀ b, b < 0 → a ≠ b → (TJx4d0d8 a).2.1 ≠ (TJx4d0d8 b).2.1 := by decide +kernel
theorem tyJx4d0d8_ok : ∀ k, k < 0 → parseFieldDescriptor (TJx4d0d8 k).2.2.1 = some (tyJx4d0d8 k) := by decide +kernel
def RJxbd725 : String := "java/util/List"
def TJxbd725 : u_T := fun k => match k with
  | _ => ("", "", "", false)
def tyJxbd725 : Nat → FieldType := fun k => match k with
  | _ => .int
abbrev wsJxbd7250 : List Cond := u_ws RJxbd725 TJxbd725 0
theorem nmJxbd725 : ∀ a, a < 0 → ∀ b, b < 0 → a ≠ b → (TJxbd725 a).2.1 ≠ (TJxbd725 b).2.1 := by decide +kernel
theorem tyJxbd725_ok : ∀ k, k < 0 → parseFieldDescriptor (TJxbd725 k).2.2.1 = some (tyJxbd725 k) := by decide +kernel
def RJ15 : String := "java/util/Objects"
def TJ15 : u_T := fun k => match k with
  | _ => ("", "", "", false)
def tyJ15 : Nat → FieldType := fun k => match k with
  | _ => .int
abbrev wsJ150 : List Cond := u_ws RJ15 TJ15 0
theorem nmJ15 : ∀ a, a < 0 → ∀ b, b < 0 → a ≠ b → (TJ15 a).2.1 ≠ (TJ15 b).2.1 := by decide +kernel
theorem tyJ15_ok : ∀ k, k < 0 → parseFieldDescriptor (TJ15 k).2.2.1 = some (tyJ15 k) := by decide +kernel
abbrev cJ15_checkIndex_7cf53 : ByteArray := prog_42_method_17_code
def yJ15_checkIndex_7cf53 : MethodName := ⟨RJ15, "checkIndex", "(II)I"⟩
def RJxf0a74 : String := "java/util/RandomAccess"
def TJxf0a74 : u_T := fun k => match k with
  | _ => ("", "", "", false)
def tyJxf0a74 : Nat → FieldType := fun k => match k with
  | _ => .int
abbrev wsJxf0a740 : List Cond := u_ws RJxf0a74 TJxf0a74 0
theorem nmJxf0a74 : ∀ a, a < 0 → ∀ b, b < 0 → a ≠ b → (TJxf0a74 a).2.1 ≠ (TJxf0a74 b).2.1 := by decide +kernel
theorem tyJxf0a74_ok : ∀ k, k < 0 → parseFieldDescriptor (TJxf0a74 k).2.2.1 = some (tyJxf0a74 k) := by decide +kernel
def RJxa66e6 : String := "java/util/SequencedCollection"
def TJxa66e6 : u_T := fun k => match k with
  | _ => ("", "", "", false)
def tyJxa66e6 : Nat → FieldType := fun k => match k with
  | _ => .int
abbrev wsJxa66e60 : List Cond := u_ws RJxa66e6 TJxa66e6 0
theorem nmJxa66e6 : ∀ a, a < 0 → ∀ b, b < 0 → a ≠ b → (TJxa66e6 a).2.1 ≠ (TJxa66e6 b).2.1 := by decide +kernel
theorem tyJxa66e6_ok : ∀ k, k < 0 → parseFieldDescriptor (TJxa66e6 k).2.2.1 = some (tyJxa66e6 k) := by decide +kernel
def RJ8 : String := "jdk/internal/util/ArraysSupport"
def TJ8 : u_T := fun k => match k with
  | _ => ("", "", "", false)
def tyJ8 : Nat → FieldType := fun k => match k with
  | _ => .int
abbrev wsJ80 : List Cond := u_ws RJ8 TJ8 0
theorem nmJ8 : ∀ a, a < 0 → ∀ b, b < 0 → a ≠ b → (TJ8 a).2.1 ≠ (TJ8 b).2.1 := by decide +kernel
theorem tyJ8_ok : ∀ k, k < 0 → parseFieldDescriptor (TJ8 k).2.2.1 = some (tyJ8 k) := by decide +kernel
abbrev cJ8_newLength_cabcc : ByteArray := prog_45_method_27_code
def yJ8_newLength_cabcc : MethodName := ⟨RJ8, "newLength", "(III)I"⟩
abbrev cJ8_hugeLength_7cf53 : ByteArray := prog_45_method_28_code
def yJ8_hugeLength_7cf53 : MethodName := ⟨RJ8, "hugeLength", "(II)I"⟩
def RJ3 : String := "jdk/internal/util/Preconditions"
def TJ3 : u_T := fun k => match k with
  | _ => ("", "", "", false)
def tyJ3 : Nat → FieldType := fun k => match k with
  | _ => .int
abbrev wsJ30 : List Cond := u_ws RJ3 TJ3 0
theorem nmJ3 : ∀ a, a < 0 → ∀ b, b < 0 → a ≠ b → (TJ3 a).2.1 ≠ (TJ3 b).2.1 := by decide +kernel
theorem tyJ3_ok : ∀ k, k < 0 → parseFieldDescriptor (TJ3 k).2.2.1 = some (tyJ3 k) := by decide +kernel
abbrev cJ3_checkIndex_8e157 : ByteArray := prog_46_method_11_code
def yJ3_checkIndex_8e157 : MethodName := ⟨RJ3, "checkIndex", "(IILjava/util/function/BiFunction;)I"⟩
def RL : String := "SettbookLaw"
abbrev cL_addShade : ByteArray := method_3_code
def yL_addShade : MethodName := ⟨RL, "addShade", "(LSettbook;CIII[J)I"⟩
abbrev cL_getPart : ByteArray := method_4_code
def yL_getPart : MethodName := ⟨RL, "getPart", "(LSettbook;ICI[J)I"⟩
abbrev cL_shadeDistance : ByteArray := method_5_code
def yL_shadeDistance : MethodName := ⟨RL, "shadeDistance", "(LSettbook;II[J)I"⟩
abbrev cL_addStripe : ByteArray := method_6_code
def yL_addStripe : MethodName := ⟨RL, "addStripe", "(LSettbook;II[J)I"⟩
abbrev cL_makeSett : ByteArray := method_7_code
def yL_makeSett : MethodName := ⟨RL, "makeSett", "(LSettbook;Z[J)I"⟩
abbrev cL_getThreads : ByteArray := method_8_code
def yL_getThreads : MethodName := ⟨RL, "getThreads", "(LSettbook;I[J)I"⟩
abbrev cL_countStripes : ByteArray := method_9_code
def yL_countStripes : MethodName := ⟨RL, "countStripes", "(LSettbook;I[J)I"⟩
abbrev cL_getShade : ByteArray := method_10_code
def yL_getShade : MethodName := ⟨RL, "getShade", "(LSettbook;II[J)I"⟩
abbrev cL_getCount : ByteArray := method_11_code
def yL_getCount : MethodName := ⟨RL, "getCount", "(LSettbook;II[J)I"⟩
abbrev cL_formShade : ByteArray := method_12_code
def yL_formShade : MethodName := ⟨RL, "formShade", "(LSettbook;II[J)I"⟩
abbrev cL_formCount : ByteArray := method_13_code
def yL_formCount : MethodName := ⟨RL, "formCount", "(LSettbook;II[J)I"⟩
abbrev cL_isAlike : ByteArray := method_14_code
def yL_isAlike : MethodName := ⟨RL, "isAlike", "(LSettbook;II[J)I"⟩
abbrev cL_lowestAlike : ByteArray := method_15_code
def yL_lowestAlike : MethodName := ⟨RL, "lowestAlike", "(LSettbook;I[J)I"⟩
abbrev cL_shadeOf : ByteArray := method_16_code
def yL_shadeOf : MethodName := ⟨RL, "shadeOf", "(LSettbook;II[J)I"⟩
abbrev cL_getShare : ByteArray := method_17_code
def yL_getShare : MethodName := ⟨RL, "getShare", "(LSettbook;II[J)I"⟩
abbrev cL_meanPart : ByteArray := method_18_code
def yL_meanPart : MethodName := ⟨RL, "meanPart", "(LSettbook;II[J)I"⟩
abbrev cL_joins : ByteArray := method_19_code
def yL_joins : MethodName := ⟨RL, "joins", "(LSettbook;III[J)I"⟩
abbrev cL_over : ByteArray := method_20_code
def yL_over : MethodName := ⟨RL, "over", "(LSettbook;III[J)I"⟩
abbrev cL_scale : ByteArray := method_21_code
def yL_scale : MethodName := ⟨RL, "scale", "(LSettbook;III[J)I"⟩
abbrev cL_getLoss : ByteArray := method_22_code
def yL_getLoss : MethodName := ⟨RL, "getLoss", "(LSettbook;[J)I"⟩
abbrev cL_twillAt : ByteArray := method_23_code
def yL_twillAt : MethodName := ⟨RL, "twillAt", "(LSettbook;III[J)I"⟩
abbrev cL_distance : ByteArray := method_24_code
def yL_distance : MethodName := ⟨RL, "distance", "(LSettbook;II[J)I"⟩
abbrev cL_setRuling : ByteArray := method_25_code
def yL_setRuling : MethodName := ⟨RL, "setRuling", "(LSettbook;I[J)I"⟩
abbrev cL_register : ByteArray := method_26_code
def yL_register : MethodName := ⟨RL, "register", "(LSettbook;ICII[J)I"⟩
abbrev cL_withdraw : ByteArray := method_27_code
def yL_withdraw : MethodName := ⟨RL, "withdraw", "(LSettbook;I[J)I"⟩
abbrev cL_isContested : ByteArray := method_28_code
def yL_isContested : MethodName := ⟨RL, "isContested", "(LSettbook;I[J)I"⟩
abbrev cL_contestedBy : ByteArray := method_29_code
def yL_contestedBy : MethodName := ⟨RL, "contestedBy", "(LSettbook;I[J)I"⟩
abbrev cL_consent : ByteArray := method_30_code
def yL_consent : MethodName := ⟨RL, "consent", "(LSettbook;II[J)I"⟩
abbrev cL_mayWeave : ByteArray := method_31_code
def yL_mayWeave : MethodName := ⟨RL, "mayWeave", "(LSettbook;II[J)I"⟩
abbrev cL_rightOf : ByteArray := method_32_code
def yL_rightOf : MethodName := ⟨RL, "rightOf", "(LSettbook;I[J)I"⟩
abbrev cL_pleatShade : ByteArray := method_33_code
def yL_pleatShade : MethodName := ⟨RL, "pleatShade", "(LSettbook;IZIIII[J)I"⟩
abbrev cL_isPlain : ByteArray := method_34_code
def yL_isPlain : MethodName := ⟨RL, "isPlain", "(LSettbook;IZIII[J)I"⟩
abbrev cL_threadsUsed : ByteArray := method_35_code
def yL_threadsUsed : MethodName := ⟨RL, "threadsUsed", "(LSettbook;IZII[J)I"⟩
abbrev cL_order : ByteArray := method_36_code
def yL_order : MethodName := ⟨RL, "order", "(LSettbook;III[J)I"⟩
abbrev cL_warpOf : ByteArray := method_37_code
def yL_warpOf : MethodName := ⟨RL, "warpOf", "(LSettbook;I[J)I"⟩
abbrev cL_left : ByteArray := method_38_code
def yL_left : MethodName := ⟨RL, "left", "(LSettbook;I[J)I"⟩
abbrev cL_addCopy : ByteArray := method_39_code
def yL_addCopy : MethodName := ⟨RL, "addCopy", "(LSettbook;I[J)I"⟩
abbrev cL_miscopy : ByteArray := method_40_code
def yL_miscopy : MethodName := ⟨RL, "miscopy", "(LSettbook;III[J)I"⟩
abbrev cL_parentOf : ByteArray := method_41_code
def yL_parentOf : MethodName := ⟨RL, "parentOf", "(LSettbook;I[J)I"⟩
abbrev cL_depth : ByteArray := method_42_code
def yL_depth : MethodName := ⟨RL, "depth", "(LSettbook;I[J)I"⟩
abbrev cL_fits : ByteArray := method_43_code
def yL_fits : MethodName := ⟨RL, "fits", "(LSettbook;I[J)I"⟩
abbrev cL_countFits : ByteArray := method_44_code
def yL_countFits : MethodName := ⟨RL, "countFits", "(LSettbook;[J)I"⟩
abbrev cL_contestedShare : ByteArray := method_45_code
def yL_contestedShare : MethodName := ⟨RL, "contestedShare", "(LSettbook;[D)I"⟩
abbrev cL_meanThreads : ByteArray := method_46_code
def yL_meanThreads : MethodName := ⟨RL, "meanThreads", "(LSettbook;[D)I"⟩
abbrev cL_law : ByteArray := code
def yL_law : MethodName := ⟨RL, "law", "([I)Z"⟩
abbrev vwCl : List vw_C := [(RJ0, TJ0, 2), (RJ6, TJ6, 1), (RJx00060, TJx00060, 6), (RJx35411, TJx35411, 4), (RJx4a65c, TJx4a65c, 3), (RX0, TX0, 3), (RX1, TX1, 5), (RX2, TX2, 4), (RX3, TX3, 3), (RX4, TX4, 14), (RX5, TX5, 9), (RX6, TX6, 2), (RX7, TX7, 7), (RX8, TX8, 2), (RX9, TX9, 10)]
