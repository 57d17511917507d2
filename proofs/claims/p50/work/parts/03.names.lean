/-! ===== BEGIN printed: names, fields, word lists, decode rows ===== -/
def RX0 : String := "Gatherhouse$Glass"
def TX0 : u_T := fun k => match k with
  | 0 => ("Gatherhouse$Glass", "low", "I", true)
  | 1 => ("Gatherhouse$Glass", "high", "I", true)
  | 2 => ("Gatherhouse$Glass", "expansion", "I", true)
  | _ => ("Gatherhouse$Glass", "colour", "I", true)
def tyX0 : Nat → FieldType := fun k => match k with
  | 0 => .int
  | 1 => .int
  | 2 => .int
  | _ => .int
abbrev wsX00 : List Cond := u_ws RX0 TX0 4
theorem nmX0 : ∀ a, a < 4 → ∀ b, b < 4 → a ≠ b → (TX0 a).2.1 ≠ (TX0 b).2.1 := by decide +kernel
theorem tyX0_ok : ∀ k, k < 4 → parseFieldDescriptor (TX0 k).2.2.1 = some (tyX0 k) := by decide +kernel
abbrev cX0_init : ByteArray := prog_2_method_1_code
def yX0_init : MethodName := ⟨RX0, "<init>", "(IIII)V"⟩
abbrev cX0_agreesWith : ByteArray := prog_2_method_2_code
def yX0_agreesWith : MethodName := ⟨RX0, "agreesWith", "(LGatherhouse$Glass;)Z"⟩
abbrev cX0_isWorkedAt : ByteArray := prog_2_method_3_code
def yX0_isWorkedAt : MethodName := ⟨RX0, "isWorkedAt", "(I)Z"⟩
def RX1 : String := "Gatherhouse$Piece"
def TX1 : u_T := fun k => match k with
  | 0 => ("Gatherhouse$Piece", "rings", "[LGatherhouse$Ring;", true)
  | 1 => ("Gatherhouse$Piece", "ringCount", "I", false)
  | 2 => ("Gatherhouse$Piece", "glasses", "[LGatherhouse$Glass;", true)
  | 3 => ("Gatherhouse$Piece", "greatestLow", "I", false)
  | 4 => ("Gatherhouse$Piece", "leastHigh", "I", false)
  | 5 => ("Gatherhouse$Piece", "state", "C", false)
  | 6 => ("Gatherhouse$Piece", "heat", "I", false)
  | 7 => ("Gatherhouse$Piece", "busy", "I", false)
  | 8 => ("Gatherhouse$Piece", "isInHole", "Z", false)
  | 9 => ("Gatherhouse$Piece", "layers", "I", false)
  | 10 => ("Gatherhouse$Piece", "flaws", "I", false)
  | 11 => ("Gatherhouse$Piece", "strain", "I", false)
  | 12 => ("Gatherhouse$Piece", "hasComeOut", "Z", false)
  | 13 => ("Gatherhouse$Piece", "isOfFirsts", "Z", false)
  | 14 => ("Gatherhouse$Piece", "dayOut", "I", false)
  | _ => ("Gatherhouse$Piece", "isOfSet", "Z", false)
def tyX1 : Nat → FieldType := fun k => match k with
  | 0 => .array (.object "Gatherhouse$Ring")
  | 1 => .int
  | 2 => .array (.object "Gatherhouse$Glass")
  | 3 => .int
  | 4 => .int
  | 5 => .char
  | 6 => .int
  | 7 => .int
  | 8 => .boolean
  | 9 => .int
  | 10 => .int
  | 11 => .int
  | 12 => .boolean
  | 13 => .boolean
  | 14 => .int
  | _ => .boolean
abbrev wsX10 : List Cond := u_ws RX1 TX1 16
theorem nmX1 : ∀ a, a < 16 → ∀ b, b < 16 → a ≠ b → (TX1 a).2.1 ≠ (TX1 b).2.1 := by decide +kernel
theorem tyX1_ok : ∀ k, k < 16 → parseFieldDescriptor (TX1 k).2.2.1 = some (tyX1 k) := by decide +kernel
abbrev cX1_init : ByteArray := prog_3_method_1_code
def yX1_init : MethodName := ⟨RX1, "<init>", "(LGatherhouse$Glass;II)V"⟩
abbrev cX1_insertRing : ByteArray := prog_3_method_2_code
def yX1_insertRing : MethodName := ⟨RX1, "insertRing", "(ILGatherhouse$Ring;)V"⟩
abbrev cX1_removeLastRing : ByteArray := prog_3_method_3_code
def yX1_removeLastRing : MethodName := ⟨RX1, "removeLastRing", "()V"⟩
abbrev cX1_addGlass : ByteArray := prog_3_method_4_code
def yX1_addGlass : MethodName := ⟨RX1, "addGlass", "(LGatherhouse$Glass;)V"⟩
abbrev cX1_agreesWith : ByteArray := prog_3_method_5_code
def yX1_agreesWith : MethodName := ⟨RX1, "agreesWith", "(LGatherhouse$Glass;)Z"⟩
abbrev cX1_agreesWithAllOf : ByteArray := prog_3_method_6_code
def yX1_agreesWithAllOf : MethodName := ⟨RX1, "agreesWithAllOf", "(LGatherhouse$Piece;)Z"⟩
abbrev cX1_isWorkedAt : ByteArray := prog_3_method_7_code
def yX1_isWorkedAt : MethodName := ⟨RX1, "isWorkedAt", "(I)Z"⟩
abbrev cX1_cover : ByteArray := prog_3_method_8_code
def yX1_cover : MethodName := ⟨RX1, "cover", "(LGatherhouse$Glass;I)V"⟩
abbrev cX1_takeOver : ByteArray := prog_3_method_9_code
def yX1_takeOver : MethodName := ⟨RX1, "takeOver", "(LGatherhouse$Piece;)V"⟩
abbrev cX1_weight : ByteArray := prog_3_method_10_code
def yX1_weight : MethodName := ⟨RX1, "weight", "()I"⟩
abbrev cX1_fullHeight : ByteArray := prog_3_method_11_code
def yX1_fullHeight : MethodName := ⟨RX1, "fullHeight", "()I"⟩
abbrev cX1_greatestWall : ByteArray := prog_3_method_12_code
def yX1_greatestWall : MethodName := ⟨RX1, "greatestWall", "()I"⟩
abbrev cX1_hasThinWall : ByteArray := prog_3_method_13_code
def yX1_hasThinWall : MethodName := ⟨RX1, "hasThinWall", "()Z"⟩
abbrev cX1_passSecond : ByteArray := prog_3_method_14_code
def yX1_passSecond : MethodName := ⟨RX1, "passSecond", "()V"⟩
abbrev cX1_coolInLehr : ByteArray := prog_3_method_15_code
def yX1_coolInLehr : MethodName := ⟨RX1, "coolInLehr", "(II)V"⟩
abbrev cX1_breaksAtEndOf : ByteArray := prog_3_method_16_code
def yX1_breaksAtEndOf : MethodName := ⟨RX1, "breaksAtEndOf", "(I)Z"⟩
abbrev cX1_expansionsApart : ByteArray := prog_3_method_17_code
def yX1_expansionsApart : MethodName := ⟨RX1, "expansionsApart", "()I"⟩
abbrev cX1_isFreeForSet : ByteArray := prog_3_method_18_code
def yX1_isFreeForSet : MethodName := ⟨RX1, "isFreeForSet", "(I)Z"⟩
abbrev cX1_worth : ByteArray := prog_3_method_19_code
def yX1_worth : MethodName := ⟨RX1, "worth", "()I"⟩
abbrev cX1_isSoundItself : ByteArray := prog_3_method_20_code
def yX1_isSoundItself : MethodName := ⟨RX1, "isSoundItself", "()Z"⟩
def RX2 : String := "Gatherhouse$Pot"
def TX2 : u_T := fun k => match k with
  | 0 => ("Gatherhouse$Pot", "glass", "LGatherhouse$Glass;", true)
  | 1 => ("Gatherhouse$Pot", "mass", "I", false)
  | 2 => ("Gatherhouse$Pot", "seeds", "I", false)
  | 3 => ("Gatherhouse$Pot", "stones", "I", false)
  | _ => ("Gatherhouse$Pot", "age", "I", false)
def tyX2 : Nat → FieldType := fun k => match k with
  | 0 => .object "Gatherhouse$Glass"
  | 1 => .int
  | 2 => .int
  | 3 => .int
  | _ => .int
abbrev wsX20 : List Cond := u_ws RX2 TX2 5
theorem nmX2 : ∀ a, a < 5 → ∀ b, b < 5 → a ≠ b → (TX2 a).2.1 ≠ (TX2 b).2.1 := by decide +kernel
theorem tyX2_ok : ∀ k, k < 5 → parseFieldDescriptor (TX2 k).2.2.1 = some (tyX2 k) := by decide +kernel
abbrev cX2_init : ByteArray := prog_4_method_1_code
def yX2_init : MethodName := ⟨RX2, "<init>", "(LGatherhouse$Glass;)V"⟩
abbrev cX2_canGive : ByteArray := prog_4_method_2_code
def yX2_canGive : MethodName := ⟨RX2, "canGive", "(I)Z"⟩
abbrev cX2_passHour : ByteArray := prog_4_method_3_code
def yX2_passHour : MethodName := ⟨RX2, "passHour", "()V"⟩
def RX3 : String := "Gatherhouse$Ring"
def TX3 : u_T := fun k => match k with
  | 0 => ("Gatherhouse$Ring", "radius", "I", false)
  | 1 => ("Gatherhouse$Ring", "height", "I", false)
  | 2 => ("Gatherhouse$Ring", "wall", "I", false)
  | 3 => ("Gatherhouse$Ring", "colours", "[I", true)
  | 4 => ("Gatherhouse$Ring", "left", "[I", true)
  | _ => ("Gatherhouse$Ring", "surface", "I", false)
def tyX3 : Nat → FieldType := fun k => match k with
  | 0 => .int
  | 1 => .int
  | 2 => .int
  | 3 => .array .int
  | 4 => .array .int
  | _ => .int
abbrev wsX30 : List Cond := u_ws RX3 TX3 6
theorem nmX3 : ∀ a, a < 6 → ∀ b, b < 6 → a ≠ b → (TX3 a).2.1 ≠ (TX3 b).2.1 := by decide +kernel
theorem tyX3_ok : ∀ k, k < 6 → parseFieldDescriptor (TX3 k).2.2.1 = some (tyX3 k) := by decide +kernel
abbrev cX3_init : ByteArray := prog_5_method_1_code
def yX3_init : MethodName := ⟨RX3, "<init>", "(III)V"⟩
abbrev cX3_copied : ByteArray := prog_5_method_2_code
def yX3_copied : MethodName := ⟨RX3, "copied", "()LGatherhouse$Ring;"⟩
abbrev cX3_isWithinBounds : ByteArray := prog_5_method_3_code
def yX3_isWithinBounds : MethodName := ⟨RX3, "isWithinBounds", "(III)Z"⟩
abbrev cX3_wallOver : ByteArray := prog_5_method_4_code
def yX3_wallOver : MethodName := ⟨RX3, "wallOver", "(II)I"⟩
abbrev cX3_dye : ByteArray := prog_5_method_5_code
def yX3_dye : MethodName := ⟨RX3, "dye", "(I)V"⟩
abbrev cX3_cover : ByteArray := prog_5_method_6_code
def yX3_cover : MethodName := ⟨RX3, "cover", "(II)V"⟩
abbrev cX3_surfaceColour : ByteArray := prog_5_method_7_code
def yX3_surfaceColour : MethodName := ⟨RX3, "surfaceColour", "()I"⟩
abbrev cX3_leftAtSurface : ByteArray := prog_5_method_8_code
def yX3_leftAtSurface : MethodName := ⟨RX3, "leftAtSurface", "()I"⟩
abbrev cX3_carve : ByteArray := prog_5_method_9_code
def yX3_carve : MethodName := ⟨RX3, "carve", "(I)V"⟩
abbrev cX3_isCutTooDeep : ByteArray := prog_5_method_10_code
def yX3_isCutTooDeep : MethodName := ⟨RX3, "isCutTooDeep", "()Z"⟩
def RX4 : String := "Gatherhouse$Role"
def TX4 : u_T := fun k => match k with
  | 0 => ("Gatherhouse$Role", "busy", "I", false)
  | _ => ("Gatherhouse$Role", "paid", "I", false)
def tyX4 : Nat → FieldType := fun k => match k with
  | 0 => .int
  | _ => .int
abbrev wsX40 : List Cond := u_ws RX4 TX4 2
theorem nmX4 : ∀ a, a < 2 → ∀ b, b < 2 → a ≠ b → (TX4 a).2.1 ≠ (TX4 b).2.1 := by decide +kernel
theorem tyX4_ok : ∀ k, k < 2 → parseFieldDescriptor (TX4 k).2.2.1 = some (tyX4 k) := by decide +kernel
abbrev cX4_init : ByteArray := prog_6_method_1_code
def yX4_init : MethodName := ⟨RX4, "<init>", "()V"⟩
abbrev cX4_isBusy : ByteArray := prog_6_method_2_code
def yX4_isBusy : MethodName := ⟨RX4, "isBusy", "()Z"⟩
abbrev cX4_passSecond : ByteArray := prog_6_method_3_code
def yX4_passSecond : MethodName := ⟨RX4, "passSecond", "()V"⟩
def RX5 : String := "Gatherhouse$SetSearch"
def TX5 : u_T := fun k => match k with
  | 0 => ("Gatherhouse$SetSearch", "numbers", "[I", true)
  | 1 => ("Gatherhouse$SetSearch", "heights", "[I", true)
  | 2 => ("Gatherhouse$SetSearch", "masses", "[I", true)
  | 3 => ("Gatherhouse$SetSearch", "size", "I", false)
  | 4 => ("Gatherhouse$SetSearch", "bestApart", "I", false)
  | 5 => ("Gatherhouse$SetSearch", "bestMass", "I", false)
  | _ => ("Gatherhouse$SetSearch", "bestChoice", "I", false)
def tyX5 : Nat → FieldType := fun k => match k with
  | 0 => .array .int
  | 1 => .array .int
  | 2 => .array .int
  | 3 => .int
  | 4 => .int
  | 5 => .int
  | _ => .int
abbrev wsX50 : List Cond := u_ws RX5 TX5 7
theorem nmX5 : ∀ a, a < 7 → ∀ b, b < 7 → a ≠ b → (TX5 a).2.1 ≠ (TX5 b).2.1 := by decide +kernel
theorem tyX5_ok : ∀ k, k < 7 → parseFieldDescriptor (TX5 k).2.2.1 = some (tyX5 k) := by decide +kernel
abbrev cX5_init : ByteArray := prog_7_method_1_code
def yX5_init : MethodName := ⟨RX5, "<init>", "()V"⟩
abbrev cX5_begin : ByteArray := prog_7_method_2_code
def yX5_begin : MethodName := ⟨RX5, "begin", "()V"⟩
abbrev cX5_offer : ByteArray := prog_7_method_3_code
def yX5_offer : MethodName := ⟨RX5, "offer", "(III)V"⟩
abbrev cX5_hasChosen : ByteArray := prog_7_method_4_code
def yX5_hasChosen : MethodName := ⟨RX5, "hasChosen", "(I)Z"⟩
abbrev cX5_choose : ByteArray := prog_7_method_5_code
def yX5_choose : MethodName := ⟨RX5, "choose", "(IIIIII)V"⟩
abbrev cX5_keepIfBetter : ByteArray := prog_7_method_6_code
def yX5_keepIfBetter : MethodName := ⟨RX5, "keepIfBetter", "(III)V"⟩
def RX6 : String := "Gatherhouse"
def TX6 : u_T := fun k => match k with
  | 0 => ("Gatherhouse", "glasses", "[LGatherhouse$Glass;", true)
  | 1 => ("Gatherhouse", "glassCount", "I", false)
  | 2 => ("Gatherhouse", "pots", "[LGatherhouse$Pot;", true)
  | 3 => ("Gatherhouse", "potCount", "I", false)
  | 4 => ("Gatherhouse", "pieces", "[LGatherhouse$Piece;", true)
  | 5 => ("Gatherhouse", "pieceCount", "I", false)
  | 6 => ("Gatherhouse", "gatherer", "LGatherhouse$Role;", true)
  | 7 => ("Gatherhouse", "servitor", "LGatherhouse$Role;", true)
  | 8 => ("Gatherhouse", "gaffer", "LGatherhouse$Role;", true)
  | 9 => ("Gatherhouse", "boy", "LGatherhouse$Role;", true)
  | 10 => ("Gatherhouse", "search", "LGatherhouse$SetSearch;", true)
  | 11 => ("Gatherhouse", "secondsGone", "I", false)
  | 12 => ("Gatherhouse", "hoursGone", "I", false)
  | 13 => ("Gatherhouse", "dropAnHour", "I", false)
  | 14 => ("Gatherhouse", "sumOfSales", "I", false)
  | _ => ("Gatherhouse", "brokenLater", "I", false)
def tyX6 : Nat → FieldType := fun k => match k with
  | 0 => .array (.object "Gatherhouse$Glass")
  | 1 => .int
  | 2 => .array (.object "Gatherhouse$Pot")
  | 3 => .int
  | 4 => .array (.object "Gatherhouse$Piece")
  | 5 => .int
  | 6 => .object "Gatherhouse$Role"
  | 7 => .object "Gatherhouse$Role"
  | 8 => .object "Gatherhouse$Role"
  | 9 => .object "Gatherhouse$Role"
  | 10 => .object "Gatherhouse$SetSearch"
  | 11 => .int
  | 12 => .int
  | 13 => .int
  | 14 => .int
  | _ => .int
abbrev wsX60 : List Cond := u_ws RX6 TX6 16
theorem nmX6 : ∀ a, a < 16 → ∀ b, b < 16 → a ≠ b → (TX6 a).2.1 ≠ (TX6 b).2.1 := by decide +kernel
theorem tyX6_ok : ∀ k, k < 16 → parseFieldDescriptor (TX6 k).2.2.1 = some (tyX6 k) := by decide +kernel
abbrev cX6_init : ByteArray := prog_1_method_1_code
def yX6_init : MethodName := ⟨RX6, "<init>", "()V"⟩
abbrev cX6_glass : ByteArray := prog_1_method_2_code
def yX6_glass : MethodName := ⟨RX6, "glass", "(IIII)I"⟩
abbrev cX6_agree : ByteArray := prog_1_method_3_code
def yX6_agree : MethodName := ⟨RX6, "agree", "(II)Z"⟩
abbrev cX6_pot : ByteArray := prog_1_method_4_code
def yX6_pot : MethodName := ⟨RX6, "pot", "(I)I"⟩
abbrev cX6_charge : ByteArray := prog_1_method_5_code
def yX6_charge : MethodName := ⟨RX6, "charge", "(II)I"⟩
abbrev cX6_change : ByteArray := prog_1_method_6_code
def yX6_change : MethodName := ⟨RX6, "change", "(I)I"⟩
abbrev cX6_of : ByteArray := prog_1_method_7_code
def yX6_of : MethodName := ⟨RX6, "of", "(IC)I"⟩
abbrev cX6_hours : ByteArray := prog_1_method_8_code
def yX6_hours : MethodName := ⟨RX6, "hours", "(I)I"⟩
abbrev cX6_pass : ByteArray := prog_1_method_9_code
def yX6_pass : MethodName := ⟨RX6, "pass", "(I)I"⟩
abbrev cX6_time : ByteArray := prog_1_method_10_code
def yX6_time : MethodName := ⟨RX6, "time", "()I"⟩
abbrev cX6_busy : ByteArray := prog_1_method_11_code
def yX6_busy : MethodName := ⟨RX6, "busy", "(C)I"⟩
abbrev cX6_pay : ByteArray := prog_1_method_12_code
def yX6_pay : MethodName := ⟨RX6, "pay", "(C)I"⟩
abbrev cX6_gather : ByteArray := prog_1_method_13_code
def yX6_gather : MethodName := ⟨RX6, "gather", "(II)I"⟩
abbrev cX6_heat : ByteArray := prog_1_method_14_code
def yX6_heat : MethodName := ⟨RX6, "heat", "(II)I"⟩
abbrev cX6_blow : ByteArray := prog_1_method_15_code
def yX6_blow : MethodName := ⟨RX6, "blow", "(III)I"⟩
abbrev cX6_swing : ByteArray := prog_1_method_16_code
def yX6_swing : MethodName := ⟨RX6, "swing", "(III)I"⟩
abbrev cX6_neck : ByteArray := prog_1_method_17_code
def yX6_neck : MethodName := ⟨RX6, "neck", "(III)I"⟩
abbrev cX6_split : ByteArray := prog_1_method_18_code
def yX6_split : MethodName := ⟨RX6, "split", "(II)I"⟩
abbrev cX6_shear : ByteArray := prog_1_method_19_code
def yX6_shear : MethodName := ⟨RX6, "shear", "(I)I"⟩
abbrev cX6_lay : ByteArray := prog_1_method_20_code
def yX6_lay : MethodName := ⟨RX6, "lay", "(III)I"⟩
abbrev cX6_join : ByteArray := prog_1_method_21_code
def yX6_join : MethodName := ⟨RX6, "join", "(II)I"⟩
abbrev cX6_crack : ByteArray := prog_1_method_22_code
def yX6_crack : MethodName := ⟨RX6, "crack", "(I)I"⟩
abbrev cX6_state : ByteArray := prog_1_method_23_code
def yX6_state : MethodName := ⟨RX6, "state", "(I)C"⟩
abbrev cX6_heatOf : ByteArray := prog_1_method_24_code
def yX6_heatOf : MethodName := ⟨RX6, "heatOf", "(I)I"⟩
abbrev cX6_rings : ByteArray := prog_1_method_25_code
def yX6_rings : MethodName := ⟨RX6, "rings", "(I)I"⟩
abbrev cX6_ring : ByteArray := prog_1_method_26_code
def yX6_ring : MethodName := ⟨RX6, "ring", "(IIC)I"⟩
abbrev cX6_mass : ByteArray := prog_1_method_27_code
def yX6_mass : MethodName := ⟨RX6, "mass", "(I)I"⟩
abbrev cX6_height : ByteArray := prog_1_method_28_code
def yX6_height : MethodName := ⟨RX6, "height", "(I)I"⟩
abbrev cX6_layers : ByteArray := prog_1_method_29_code
def yX6_layers : MethodName := ⟨RX6, "layers", "(I)I"⟩
abbrev cX6_flaws : ByteArray := prog_1_method_30_code
def yX6_flaws : MethodName := ⟨RX6, "flaws", "(I)I"⟩
abbrev cX6_low : ByteArray := prog_1_method_31_code
def yX6_low : MethodName := ⟨RX6, "low", "(IZ)I"⟩
abbrev cX6_strain : ByteArray := prog_1_method_32_code
def yX6_strain : MethodName := ⟨RX6, "strain", "(I)I"⟩
abbrev cX6_isFirst : ByteArray := prog_1_method_33_code
def yX6_isFirst : MethodName := ⟨RX6, "isFirst", "(I)Z"⟩
abbrev cX6_drop : ByteArray := prog_1_method_34_code
def yX6_drop : MethodName := ⟨RX6, "drop", "(I)I"⟩
abbrev cX6_lehr : ByteArray := prog_1_method_35_code
def yX6_lehr : MethodName := ⟨RX6, "lehr", "()I"⟩
abbrev cX6_days : ByteArray := prog_1_method_36_code
def yX6_days : MethodName := ⟨RX6, "days", "(I)I"⟩
abbrev cX6_day : ByteArray := prog_1_method_37_code
def yX6_day : MethodName := ⟨RX6, "day", "()I"⟩
abbrev cX6_cut : ByteArray := prog_1_method_38_code
def yX6_cut : MethodName := ⟨RX6, "cut", "(III)I"⟩
abbrev cX6_colour : ByteArray := prog_1_method_39_code
def yX6_colour : MethodName := ⟨RX6, "colour", "(II)I"⟩
abbrev cX6_set : ByteArray := prog_1_method_40_code
def yX6_set : MethodName := ⟨RX6, "set", "(III)I"⟩
abbrev cX6_isInSet : ByteArray := prog_1_method_41_code
def yX6_isInSet : MethodName := ⟨RX6, "isInSet", "(I)Z"⟩
abbrev cX6_price : ByteArray := prog_1_method_42_code
def yX6_price : MethodName := ⟨RX6, "price", "(I)I"⟩
abbrev cX6_sell : ByteArray := prog_1_method_43_code
def yX6_sell : MethodName := ⟨RX6, "sell", "(I)I"⟩
abbrev cX6_takings : ByteArray := prog_1_method_44_code
def yX6_takings : MethodName := ⟨RX6, "takings", "()I"⟩
abbrev cX6_checksum : ByteArray := prog_1_method_45_code
def yX6_checksum : MethodName := ⟨RX6, "checksum", "()J"⟩
abbrev cX6_wholeShare : ByteArray := prog_1_method_46_code
def yX6_wholeShare : MethodName := ⟨RX6, "wholeShare", "()F"⟩
abbrev cX6_meanMass : ByteArray := prog_1_method_47_code
def yX6_meanMass : MethodName := ⟨RX6, "meanMass", "()D"⟩
abbrev cX6_isSound : ByteArray := prog_1_method_48_code
def yX6_isSound : MethodName := ⟨RX6, "isSound", "()Z"⟩
abbrev cX6_checkRange : ByteArray := prog_1_method_49_code
def yX6_checkRange : MethodName := ⟨RX6, "checkRange", "(III)V"⟩
abbrev cX6_findGlass : ByteArray := prog_1_method_50_code
def yX6_findGlass : MethodName := ⟨RX6, "findGlass", "(I)LGatherhouse$Glass;"⟩
abbrev cX6_findPot : ByteArray := prog_1_method_51_code
def yX6_findPot : MethodName := ⟨RX6, "findPot", "(I)LGatherhouse$Pot;"⟩
abbrev cX6_findPiece : ByteArray := prog_1_method_52_code
def yX6_findPiece : MethodName := ⟨RX6, "findPiece", "(I)LGatherhouse$Piece;"⟩
abbrev cX6_findRing : ByteArray := prog_1_method_53_code
def yX6_findRing : MethodName := ⟨RX6, "findRing", "(LGatherhouse$Piece;I)LGatherhouse$Ring;"⟩
abbrev cX6_findRole : ByteArray := prog_1_method_54_code
def yX6_findRole : MethodName := ⟨RX6, "findRole", "(C)LGatherhouse$Role;"⟩
abbrev cX6_checkAtHand : ByteArray := prog_1_method_55_code
def yX6_checkAtHand : MethodName := ⟨RX6, "checkAtHand", "(LGatherhouse$Piece;LGatherhouse$Role;)V"⟩
abbrev cX6_checkWork : ByteArray := prog_1_method_56_code
def yX6_checkWork : MethodName := ⟨RX6, "checkWork", "(LGatherhouse$Piece;LGatherhouse$Role;)V"⟩
abbrev cX6_checkTeamRests : ByteArray := prog_1_method_57_code
def yX6_checkTeamRests : MethodName := ⟨RX6, "checkTeamRests", "()V"⟩
abbrev cX6_takeFor : ByteArray := prog_1_method_58_code
def yX6_takeFor : MethodName := ⟨RX6, "takeFor", "(ILGatherhouse$Role;LGatherhouse$Piece;)V"⟩
abbrev cX6_reshape : ByteArray := prog_1_method_59_code
def yX6_reshape : MethodName := ⟨RX6, "reshape", "(LGatherhouse$Ring;III)V"⟩
abbrev cX6_countOf : ByteArray := prog_1_method_60_code
def yX6_countOf : MethodName := ⟨RX6, "countOf", "(C)I"⟩
abbrev cX6_freeHoles : ByteArray := prog_1_method_61_code
def yX6_freeHoles : MethodName := ⟨RX6, "freeHoles", "()I"⟩
abbrev cX6_passSecond : ByteArray := prog_1_method_62_code
def yX6_passSecond : MethodName := ⟨RX6, "passSecond", "()I"⟩
abbrev cX6_passHour : ByteArray := prog_1_method_63_code
def yX6_passHour : MethodName := ⟨RX6, "passHour", "()I"⟩
abbrev cX6_endDay : ByteArray := prog_1_method_64_code
def yX6_endDay : MethodName := ⟨RX6, "endDay", "(I)V"⟩
def RX7 : String := "GatherhouseModel$Glass"
def TX7 : u_T := fun k => match k with
  | _ => ("", "", "", false)
def tyX7 : Nat → FieldType := fun k => match k with
  | _ => .int
abbrev wsX70 : List Cond := u_ws RX7 TX7 0
theorem nmX7 : ∀ a, a < 0 → ∀ b, b < 0 → a ≠ b → (TX7 a).2.1 ≠ (TX7 b).2.1 := by decide +kernel
theorem tyX7_ok : ∀ k, k < 0 → parseFieldDescriptor (TX7 k).2.2.1 = some (tyX7 k) := by decide +kernel
def RX8 : String := "GatherhouseModel$Piece"
def TX8 : u_T := fun k => match k with
  | _ => ("", "", "", false)
def tyX8 : Nat → FieldType := fun k => match k with
  | _ => .int
abbrev wsX80 : List Cond := u_ws RX8 TX8 0
theorem nmX8 : ∀ a, a < 0 → ∀ b, b < 0 → a ≠ b → (TX8 a).2.1 ≠ (TX8 b).2.1 := by decide +kernel
theorem tyX8_ok : ∀ k, k < 0 → parseFieldDescriptor (TX8 k).2.2.1 = some (tyX8 k) := by decide +kernel
def RX9 : String := "GatherhouseModel$Pot"
def TX9 : u_T := fun k => match k with
  | _ => ("", "", "", false)
def tyX9 : Nat → FieldType := fun k => match k with
  | _ => .int
abbrev wsX90 : List Cond := u_ws RX9 TX9 0
theorem nmX9 : ∀ a, a < 0 → ∀ b, b < 0 → a ≠ b → (TX9 a).2.1 ≠ (TX9 b).2.1 := by decide +kernel
theorem tyX9_ok : ∀ k, k < 0 → parseFieldDescriptor (TX9 k).2.2.1 = some (tyX9 k) := by decide +kernel
def RX10 : String := "GatherhouseModel$Ring"
def TX10 : u_T := fun k => match k with
  | _ => ("", "", "", false)
def tyX10 : Nat → FieldType := fun k => match k with
  | _ => .int
abbrev wsX100 : List Cond := u_ws RX10 TX10 0
theorem nmX10 : ∀ a, a < 0 → ∀ b, b < 0 → a ≠ b → (TX10 a).2.1 ≠ (TX10 b).2.1 := by decide +kernel
theorem tyX10_ok : ∀ k, k < 0 → parseFieldDescriptor (TX10 k).2.2.1 = some (tyX10 k) := by decide +kernel
def RX11 : String := "GatherhouseModel"
def TX11 : u_T := fun k => match k with
  | _ => ("", "", "", false)
def tyX11 : Nat → FieldType := fun k => match k with
  | _ => .int
abbrev wsX110 : List Cond := u_ws RX11 TX11 0
theorem nmX11 : ∀ a, a < 0 → ∀ b, b < 0 → a ≠ b → (TX11 a).2.1 ≠ (TX11 b).2.1 := by decide +kernel
theorem tyX11_ok : ∀ k, k < 0 → parseFieldDescriptor (TX11 k).2.2.1 = some (tyX11 k) := by decide +kernel
def RJx145de : String := "java/io/Serializable"
def TJx145de : u_T := fun k => match k with
  | _ => ("", "", "", false)
def tyJx145de : Nat → FieldType := fun k => match k with
  | _ => .int
abbrev wsJx145de0 : List Cond := u_ws RJx145de TJx145de 0
theorem nmJx145de : ∀ a, a < 0 → ∀ b, b < 0 → a ≠ b → (TJx145de a).2.1 ≠ (TJx145de b).2.1 := by decide +kernel
theorem tyJx145de_ok : ∀ k, k < 0 → parseFieldDescriptor (TJx145de k).2.2.1 = some (tyJx145de k) := by decide +kernel
def RJ9 : String := "java/lang/Math"
def TJ9 : u_T := fun k => match k with
  | _ => ("", "", "", false)
def tyJ9 : Nat → FieldType := fun k => match k with
  | _ => .int
abbrev wsJ90 : List Cond := u_ws RJ9 TJ9 0
theorem nmJ9 : ∀ a, a < 0 → ∀ b, b < 0 → a ≠ b → (TJ9 a).2.1 ≠ (TJ9 b).2.1 := by decide +kernel
theorem tyJ9_ok : ∀ k, k < 0 → parseFieldDescriptor (TJ9 k).2.2.1 = some (tyJ9 k) := by decide +kernel
abbrev cJ9_abs_0f7a4 : ByteArray := prog_19_method_59_code
def yJ9_abs_0f7a4 : MethodName := ⟨RJ9, "abs", "(I)I"⟩
abbrev cJ9_max_7cf53 : ByteArray := prog_19_method_65_code
def yJ9_max_7cf53 : MethodName := ⟨RJ9, "max", "(II)I"⟩
abbrev cJ9_min_7cf53 : ByteArray := prog_19_method_69_code
def yJ9_min_7cf53 : MethodName := ⟨RJ9, "min", "(II)I"⟩
def RJ0 : String := "java/lang/String"
def TJ0 : u_T := fun k => match k with
  | _ => ("", "", "", false)
def tyJ0 : Nat → FieldType := fun k => match k with
  | _ => .int
abbrev wsJ00 : List Cond := u_ws RJ0 TJ0 0
theorem nmJ0 : ∀ a, a < 0 → ∀ b, b < 0 → a ≠ b → (TJ0 a).2.1 ≠ (TJ0 b).2.1 := by decide +kernel
theorem tyJ0_ok : ∀ k, k < 0 → parseFieldDescriptor (TJ0 k).2.2.1 = some (tyJ0 k) := by decide +kernel
def RL : String := "GatherhouseLaw"
abbrev cL_at : ByteArray := method_2_code
def yL_at : MethodName := ⟨RL, "at", "([II)I"⟩
abbrev cL_some : ByteArray := method_3_code
def yL_some : MethodName := ⟨RL, "some", "(II)I"⟩
abbrev cL_ask : ByteArray := method_4_code
def yL_ask : MethodName := ⟨RL, "ask", "(LGatherhouse;C[I)I"⟩
abbrev cL_asked : ByteArray := method_5_code
def yL_asked : MethodName := ⟨RL, "asked", "(LGatherhouse;C[I)I"⟩
abbrev cL_hasNone : ByteArray := method_6_code
def yL_hasNone : MethodName := ⟨RL, "hasNone", "(LGatherhouse;Z)Z"⟩
abbrev cL_law : ByteArray := code
def yL_law : MethodName := ⟨RL, "law", "([I)Z"⟩
abbrev cL_glasses : ByteArray := method_8_code
def yL_glasses : MethodName := ⟨RL, "glasses", "([I)Z"⟩
abbrev cL_pots : ByteArray := method_9_code
def yL_pots : MethodName := ⟨RL, "pots", "([I)Z"⟩
abbrev cL_joins : ByteArray := method_10_code
def yL_joins : MethodName := ⟨RL, "joins", "([I)Z"⟩
abbrev vwCl : List vw_C := [(RX0, TX0, 4), (RX1, TX1, 16), (RX2, TX2, 5), (RX3, TX3, 6), (RX4, TX4, 2), (RX5, TX5, 7), (RX6, TX6, 16)]
