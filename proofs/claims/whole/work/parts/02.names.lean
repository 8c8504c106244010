/-! ===== BEGIN printed: names, fields, word lists, decode rows ===== -/
def RX0 : String := "SlittingOffice$Coil"
def TX0 : u_T := fun k => match k with
  | 0 => ("SlittingOffice$Coil", "width", "I", false)
  | 1 => ("SlittingOffice$Coil", "weight", "I", false)
  | 2 => ("SlittingOffice$Coil", "length", "I", false)
  | 3 => ("SlittingOffice$Coil", "heat", "I", false)
  | 4 => ("SlittingOffice$Coil", "defectFroms", "[I", true)
  | 5 => ("SlittingOffice$Coil", "defectTos", "[I", true)
  | 6 => ("SlittingOffice$Coil", "defectCount", "I", false)
  | 7 => ("SlittingOffice$Coil", "slitWidths", "[I", true)
  | 8 => ("SlittingOffice$Coil", "slitWeights", "[I", true)
  | 9 => ("SlittingOffice$Coil", "slitOrders", "[I", true)
  | 10 => ("SlittingOffice$Coil", "slitCount", "I", false)
  | 11 => ("SlittingOffice$Coil", "innerTurns", "I", false)
  | 12 => ("SlittingOffice$Coil", "cutOut", "I", false)
  | _ => ("SlittingOffice$Coil", "trim", "I", false)
def tyX0 : Nat → FieldType := fun k => match k with
  | 0 => .int
  | 1 => .int
  | 2 => .int
  | 3 => .int
  | 4 => .array .int
  | 5 => .array .int
  | 6 => .int
  | 7 => .array .int
  | 8 => .array .int
  | 9 => .array .int
  | 10 => .int
  | 11 => .int
  | 12 => .int
  | _ => .int
abbrev wsX00 : List Cond := u_ws RX0 TX0 14
theorem nmX0 : ∀ a, a < 14 → ∀ b, b < 14 → a ≠ b → (TX0 a).2.1 ≠ (TX0 b).2.1 := by decide +kernel
theorem tyX0_ok : ∀ k, k < 14 → parseFieldDescriptor (TX0 k).2.2.1 = some (tyX0 k) := by decide +kernel
abbrev cX0_init : ByteArray := prog_2_method_1_code
def yX0_init : MethodName := ⟨RX0, "<init>", "()V"⟩
abbrev cX0_describe : ByteArray := prog_2_method_2_code
def yX0_describe : MethodName := ⟨RX0, "describe", "(IIII)V"⟩
abbrev cX0_isSlit : ByteArray := prog_2_method_3_code
def yX0_isSlit : MethodName := ⟨RX0, "isSlit", "()Z"⟩
abbrev cX0_hasSlitAt : ByteArray := prog_2_method_4_code
def yX0_hasSlitAt : MethodName := ⟨RX0, "hasSlitAt", "(I)Z"⟩
abbrev cX0_hasMostDefects : ByteArray := prog_2_method_5_code
def yX0_hasMostDefects : MethodName := ⟨RX0, "hasMostDefects", "()Z"⟩
abbrev cX0_addDefect : ByteArray := prog_2_method_6_code
def yX0_addDefect : MethodName := ⟨RX0, "addDefect", "(II)V"⟩
abbrev cX0_cutOutLength : ByteArray := prog_2_method_7_code
def yX0_cutOutLength : MethodName := ⟨RX0, "cutOutLength", "()I"⟩
abbrev cX0_slitBy : ByteArray := prog_2_method_8_code
def yX0_slitBy : MethodName := ⟨RX0, "slitBy", "(LSlittingOffice$Pattern;I)V"⟩
abbrev cX0_stockOf : ByteArray := prog_2_method_9_code
def yX0_stockOf : MethodName := ⟨RX0, "stockOf", "(I)I"⟩
abbrev cX0_share : ByteArray := prog_2_method_10_code
def yX0_share : MethodName := ⟨RX0, "share", "(III)I"⟩
def RX1 : String := "SlittingOffice$Filling"
def TX1 : u_T := fun k => match k with
  | 0 => ("SlittingOffice$Filling", "widths", "[I", true)
  | 1 => ("SlittingOffice$Filling", "widthCount", "I", false)
  | _ => ("SlittingOffice$Filling", "fewestSlits", "[I", true)
def tyX1 : Nat → FieldType := fun k => match k with
  | 0 => .array .int
  | 1 => .int
  | _ => .array .int
abbrev wsX10 : List Cond := u_ws RX1 TX1 3
theorem nmX1 : ∀ a, a < 3 → ∀ b, b < 3 → a ≠ b → (TX1 a).2.1 ≠ (TX1 b).2.1 := by decide +kernel
theorem tyX1_ok : ∀ k, k < 3 → parseFieldDescriptor (TX1 k).2.2.1 = some (tyX1 k) := by decide +kernel
abbrev cX1_init : ByteArray := prog_3_method_1_code
def yX1_init : MethodName := ⟨RX1, "<init>", "()V"⟩
abbrev cX1_forgetWidths : ByteArray := prog_3_method_2_code
def yX1_forgetWidths : MethodName := ⟨RX1, "forgetWidths", "()V"⟩
abbrev cX1_offerWidth : ByteArray := prog_3_method_3_code
def yX1_offerWidth : MethodName := ⟨RX1, "offerWidth", "(I)V"⟩
abbrev cX1_greatestTotal : ByteArray := prog_3_method_4_code
def yX1_greatestTotal : MethodName := ⟨RX1, "greatestTotal", "(II)I"⟩
abbrev cX1_fewestSlitsFor : ByteArray := prog_3_method_5_code
def yX1_fewestSlitsFor : MethodName := ⟨RX1, "fewestSlitsFor", "(I)I"⟩
abbrev cX1_layOut : ByteArray := prog_3_method_6_code
def yX1_layOut : MethodName := ⟨RX1, "layOut", "(ILSlittingOffice$Pattern;)V"⟩
abbrev cX1_greatestBefore : ByteArray := prog_3_method_7_code
def yX1_greatestBefore : MethodName := ⟨RX1, "greatestBefore", "(II)I"⟩
abbrev cX1_greatestTotalByTrying : ByteArray := prog_3_method_8_code
def yX1_greatestTotalByTrying : MethodName := ⟨RX1, "greatestTotalByTrying", "(II)I"⟩
abbrev cX1_tryFrom : ByteArray := prog_3_method_9_code
def yX1_tryFrom : MethodName := ⟨RX1, "tryFrom", "([IIIII)I"⟩
def RX2 : String := "SlittingOffice$Order"
def TX2 : u_T := fun k => match k with
  | 0 => ("SlittingOffice$Order", "width", "I", false)
  | 1 => ("SlittingOffice$Order", "weight", "I", false)
  | 2 => ("SlittingOffice$Order", "received", "I", false)
  | _ => ("SlittingOffice$Order", "heat", "I", false)
def tyX2 : Nat → FieldType := fun k => match k with
  | 0 => .int
  | 1 => .int
  | 2 => .int
  | _ => .int
abbrev wsX20 : List Cond := u_ws RX2 TX2 4
theorem nmX2 : ∀ a, a < 4 → ∀ b, b < 4 → a ≠ b → (TX2 a).2.1 ≠ (TX2 b).2.1 := by decide +kernel
theorem tyX2_ok : ∀ k, k < 4 → parseFieldDescriptor (TX2 k).2.2.1 = some (tyX2 k) := by decide +kernel
abbrev cX2_init : ByteArray := prog_4_method_1_code
def yX2_init : MethodName := ⟨RX2, "<init>", "()V"⟩
abbrev cX2_describe : ByteArray := prog_4_method_2_code
def yX2_describe : MethodName := ⟨RX2, "describe", "(II)V"⟩
abbrev cX2_wouldTakeHeat : ByteArray := prog_4_method_3_code
def yX2_wouldTakeHeat : MethodName := ⟨RX2, "wouldTakeHeat", "(I)Z"⟩
abbrev cX2_receive : ByteArray := prog_4_method_4_code
def yX2_receive : MethodName := ⟨RX2, "receive", "(II)V"⟩
def RX3 : String := "SlittingOffice$Pattern"
def TX3 : u_T := fun k => match k with
  | 0 => ("SlittingOffice$Pattern", "widths", "[I", true)
  | _ => ("SlittingOffice$Pattern", "count", "I", false)
def tyX3 : Nat → FieldType := fun k => match k with
  | 0 => .array .int
  | _ => .int
abbrev wsX30 : List Cond := u_ws RX3 TX3 2
theorem nmX3 : ∀ a, a < 2 → ∀ b, b < 2 → a ≠ b → (TX3 a).2.1 ≠ (TX3 b).2.1 := by decide +kernel
theorem tyX3_ok : ∀ k, k < 2 → parseFieldDescriptor (TX3 k).2.2.1 = some (tyX3 k) := by decide +kernel
abbrev cX3_init : ByteArray := prog_5_method_1_code
def yX3_init : MethodName := ⟨RX3, "<init>", "()V"⟩
abbrev cX3_isFull : ByteArray := prog_5_method_2_code
def yX3_isFull : MethodName := ⟨RX3, "isFull", "()Z"⟩
abbrev cX3_hasSlitAt : ByteArray := prog_5_method_3_code
def yX3_hasSlitAt : MethodName := ⟨RX3, "hasSlitAt", "(I)Z"⟩
abbrev cX3_empty : ByteArray := prog_5_method_4_code
def yX3_empty : MethodName := ⟨RX3, "empty", "()V"⟩
abbrev cX3_append : ByteArray := prog_5_method_5_code
def yX3_append : MethodName := ⟨RX3, "append", "(I)V"⟩
abbrev cX3_becomeCopyOf : ByteArray := prog_5_method_6_code
def yX3_becomeCopyOf : MethodName := ⟨RX3, "becomeCopyOf", "(LSlittingOffice$Pattern;)V"⟩
abbrev cX3_totalWidth : ByteArray := prog_5_method_7_code
def yX3_totalWidth : MethodName := ⟨RX3, "totalWidth", "()I"⟩
abbrev cX3_knivesNeeded : ByteArray := prog_5_method_8_code
def yX3_knivesNeeded : MethodName := ⟨RX3, "knivesNeeded", "()I"⟩
abbrev cX3_knivesNotIn : ByteArray := prog_5_method_9_code
def yX3_knivesNotIn : MethodName := ⟨RX3, "knivesNotIn", "(LSlittingOffice$Pattern;)I"⟩
abbrev cX3_hasKnifeAt : ByteArray := prog_5_method_10_code
def yX3_hasKnifeAt : MethodName := ⟨RX3, "hasKnifeAt", "(I)Z"⟩
def RX4 : String := "SlittingOffice$RunOrder"
def TX4 : u_T := fun k => match k with
  | 0 => ("SlittingOffice$RunOrder", "moves", "[[I", true)
  | 1 => ("SlittingOffice$RunOrder", "fewest", "[[I", true)
  | _ => ("SlittingOffice$RunOrder", "best", "[I", true)
def tyX4 : Nat → FieldType := fun k => match k with
  | 0 => .array (.array .int)
  | 1 => .array (.array .int)
  | _ => .array .int
abbrev wsX40 : List Cond := u_ws RX4 TX4 3
theorem nmX4 : ∀ a, a < 3 → ∀ b, b < 3 → a ≠ b → (TX4 a).2.1 ≠ (TX4 b).2.1 := by decide +kernel
theorem tyX4_ok : ∀ k, k < 3 → parseFieldDescriptor (TX4 k).2.2.1 = some (tyX4 k) := by decide +kernel
abbrev cX4_init : ByteArray := prog_6_method_1_code
def yX4_init : MethodName := ⟨RX4, "<init>", "()V"⟩
abbrev cX4_fewestBySets : ByteArray := prog_6_method_2_code
def yX4_fewestBySets : MethodName := ⟨RX4, "fewestBySets", "(I)I"⟩
abbrev cX4_fewestAfter : ByteArray := prog_6_method_3_code
def yX4_fewestAfter : MethodName := ⟨RX4, "fewestAfter", "(III)I"⟩
abbrev cX4_movesThrough : ByteArray := prog_6_method_4_code
def yX4_movesThrough : MethodName := ⟨RX4, "movesThrough", "(III)I"⟩
abbrev cX4_findBest : ByteArray := prog_6_method_5_code
def yX4_findBest : MethodName := ⟨RX4, "findBest", "(I)V"⟩
abbrev cX4_leastNext : ByteArray := prog_6_method_6_code
def yX4_leastNext : MethodName := ⟨RX4, "leastNext", "(III)I"⟩
abbrev cX4_fewestByOrders : ByteArray := prog_6_method_7_code
def yX4_fewestByOrders : MethodName := ⟨RX4, "fewestByOrders", "(I)I"⟩
abbrev cX4_tryOrders : ByteArray := prog_6_method_8_code
def yX4_tryOrders : MethodName := ⟨RX4, "tryOrders", "([[IIIII)I"⟩
abbrev cX4_holds : ByteArray := prog_6_method_9_code
def yX4_holds : MethodName := ⟨RX4, "holds", "(II)Z"⟩
abbrev cX4_without : ByteArray := prog_6_method_10_code
def yX4_without : MethodName := ⟨RX4, "without", "(II)I"⟩
def RX5 : String := "SlittingOffice"
def TX5 : u_T := fun k => match k with
  | 0 => ("SlittingOffice", "coils", "[LSlittingOffice$Coil;", true)
  | 1 => ("SlittingOffice", "coilCount", "I", false)
  | 2 => ("SlittingOffice", "orders", "[LSlittingOffice$Order;", true)
  | 3 => ("SlittingOffice", "orderCount", "I", false)
  | 4 => ("SlittingOffice", "patterns", "[LSlittingOffice$Pattern;", true)
  | 5 => ("SlittingOffice", "patternCount", "I", false)
  | 6 => ("SlittingOffice", "draft", "LSlittingOffice$Pattern;", true)
  | 7 => ("SlittingOffice", "edge", "I", false)
  | 8 => ("SlittingOffice", "loss", "I", false)
  | 9 => ("SlittingOffice", "knives", "I", false)
  | 10 => ("SlittingOffice", "setup", "I", false)
  | 11 => ("SlittingOffice", "movedKnives", "I", false)
  | 12 => ("SlittingOffice", "waitingCoils", "[I", true)
  | 13 => ("SlittingOffice", "waitingPatterns", "[I", true)
  | 14 => ("SlittingOffice", "waitingCount", "I", false)
  | 15 => ("SlittingOffice", "filling", "LSlittingOffice$Filling;", true)
  | _ => ("SlittingOffice", "runOrder", "LSlittingOffice$RunOrder;", true)
def tyX5 : Nat → FieldType := fun k => match k with
  | 0 => .array (.object "SlittingOffice$Coil")
  | 1 => .int
  | 2 => .array (.object "SlittingOffice$Order")
  | 3 => .int
  | 4 => .array (.object "SlittingOffice$Pattern")
  | 5 => .int
  | 6 => .object "SlittingOffice$Pattern"
  | 7 => .int
  | 8 => .int
  | 9 => .int
  | 10 => .int
  | 11 => .int
  | 12 => .array .int
  | 13 => .array .int
  | 14 => .int
  | 15 => .object "SlittingOffice$Filling"
  | _ => .object "SlittingOffice$RunOrder"
abbrev wsX50 : List Cond := u_ws RX5 TX5 17
theorem nmX5 : ∀ a, a < 17 → ∀ b, b < 17 → a ≠ b → (TX5 a).2.1 ≠ (TX5 b).2.1 := by decide +kernel
theorem tyX5_ok : ∀ k, k < 17 → parseFieldDescriptor (TX5 k).2.2.1 = some (tyX5 k) := by decide +kernel
abbrev cX5_init : ByteArray := prog_1_method_1_code
def yX5_init : MethodName := ⟨RX5, "<init>", "()V"⟩
abbrev cX5_coil : ByteArray := prog_1_method_2_code
def yX5_coil : MethodName := ⟨RX5, "coil", "(IIII)I"⟩
abbrev cX5_defect : ByteArray := prog_1_method_3_code
def yX5_defect : MethodName := ⟨RX5, "defect", "(III)I"⟩
abbrev cX5_setRules : ByteArray := prog_1_method_4_code
def yX5_setRules : MethodName := ⟨RX5, "setRules", "(III)I"⟩
abbrev cX5_order : ByteArray := prog_1_method_5_code
def yX5_order : MethodName := ⟨RX5, "order", "(II)I"⟩
abbrev cX5_addSlit : ByteArray := prog_1_method_6_code
def yX5_addSlit : MethodName := ⟨RX5, "addSlit", "(I)I"⟩
abbrev cX5_clearDraft : ByteArray := prog_1_method_7_code
def yX5_clearDraft : MethodName := ⟨RX5, "clearDraft", "()I"⟩
abbrev cX5_draftSlits : ByteArray := prog_1_method_8_code
def yX5_draftSlits : MethodName := ⟨RX5, "draftSlits", "()I"⟩
abbrev cX5_draftWidth : ByteArray := prog_1_method_9_code
def yX5_draftWidth : MethodName := ⟨RX5, "draftWidth", "(I)I"⟩
abbrev cX5_keep : ByteArray := prog_1_method_10_code
def yX5_keep : MethodName := ⟨RX5, "keep", "()I"⟩
abbrev cX5_fits : ByteArray := prog_1_method_11_code
def yX5_fits : MethodName := ⟨RX5, "fits", "(II)Z"⟩
abbrev cX5_fill : ByteArray := prog_1_method_12_code
def yX5_fill : MethodName := ⟨RX5, "fill", "(I)I"⟩
abbrev cX5_fullestByTrying : ByteArray := prog_1_method_13_code
def yX5_fullestByTrying : MethodName := ⟨RX5, "fullestByTrying", "(I)I"⟩
abbrev cX5_run : ByteArray := prog_1_method_14_code
def yX5_run : MethodName := ⟨RX5, "run", "(II)I"⟩
abbrev cX5_moves : ByteArray := prog_1_method_15_code
def yX5_moves : MethodName := ⟨RX5, "moves", "(I)I"⟩
abbrev cX5_moved : ByteArray := prog_1_method_16_code
def yX5_moved : MethodName := ⟨RX5, "moved", "()I"⟩
abbrev cX5_plan : ByteArray := prog_1_method_17_code
def yX5_plan : MethodName := ⟨RX5, "plan", "(II)I"⟩
abbrev cX5_waiting : ByteArray := prog_1_method_18_code
def yX5_waiting : MethodName := ⟨RX5, "waiting", "()I"⟩
abbrev cX5_fewestMoves : ByteArray := prog_1_method_19_code
def yX5_fewestMoves : MethodName := ⟨RX5, "fewestMoves", "()I"⟩
abbrev cX5_fewestByTrying : ByteArray := prog_1_method_20_code
def yX5_fewestByTrying : MethodName := ⟨RX5, "fewestByTrying", "()I"⟩
abbrev cX5_nextAt : ByteArray := prog_1_method_21_code
def yX5_nextAt : MethodName := ⟨RX5, "nextAt", "(I)I"⟩
abbrev cX5_runAll : ByteArray := prog_1_method_22_code
def yX5_runAll : MethodName := ⟨RX5, "runAll", "()I"⟩
abbrev cX5_slits : ByteArray := prog_1_method_23_code
def yX5_slits : MethodName := ⟨RX5, "slits", "(I)I"⟩
abbrev cX5_slitWeight : ByteArray := prog_1_method_24_code
def yX5_slitWeight : MethodName := ⟨RX5, "slitWeight", "(II)I"⟩
abbrev cX5_slitOrder : ByteArray := prog_1_method_25_code
def yX5_slitOrder : MethodName := ⟨RX5, "slitOrder", "(II)I"⟩
abbrev cX5_lost : ByteArray := prog_1_method_26_code
def yX5_lost : MethodName := ⟨RX5, "lost", "(II)I"⟩
abbrev cX5_delivered : ByteArray := prog_1_method_27_code
def yX5_delivered : MethodName := ⟨RX5, "delivered", "(I)I"⟩
abbrev cX5_heatOf : ByteArray := prog_1_method_28_code
def yX5_heatOf : MethodName := ⟨RX5, "heatOf", "(I)I"⟩
abbrev cX5_stock : ByteArray := prog_1_method_29_code
def yX5_stock : MethodName := ⟨RX5, "stock", "(I)I"⟩
abbrev cX5_requireRange : ByteArray := prog_1_method_30_code
def yX5_requireRange : MethodName := ⟨RX5, "requireRange", "(III)V"⟩
abbrev cX5_hasCoil : ByteArray := prog_1_method_31_code
def yX5_hasCoil : MethodName := ⟨RX5, "hasCoil", "(I)Z"⟩
abbrev cX5_hasPattern : ByteArray := prog_1_method_32_code
def yX5_hasPattern : MethodName := ⟨RX5, "hasPattern", "(I)Z"⟩
abbrev cX5_requireCoil : ByteArray := prog_1_method_33_code
def yX5_requireCoil : MethodName := ⟨RX5, "requireCoil", "(I)V"⟩
abbrev cX5_requirePattern : ByteArray := prog_1_method_34_code
def yX5_requirePattern : MethodName := ⟨RX5, "requirePattern", "(I)V"⟩
abbrev cX5_requireOrder : ByteArray := prog_1_method_35_code
def yX5_requireOrder : MethodName := ⟨RX5, "requireOrder", "(I)V"⟩
abbrev cX5_requireSlit : ByteArray := prog_1_method_36_code
def yX5_requireSlit : MethodName := ⟨RX5, "requireSlit", "(II)V"⟩
abbrev cX5_roomOf : ByteArray := prog_1_method_37_code
def yX5_roomOf : MethodName := ⟨RX5, "roomOf", "(LSlittingOffice$Coil;)I"⟩
abbrev cX5_canBeCutFrom : ByteArray := prog_1_method_38_code
def yX5_canBeCutFrom : MethodName := ⟨RX5, "canBeCutFrom", "(LSlittingOffice$Pattern;LSlittingOffice$Coil;)Z"⟩
abbrev cX5_offerWidthsFor : ByteArray := prog_1_method_39_code
def yX5_offerWidthsFor : MethodName := ⟨RX5, "offerWidthsFor", "(LSlittingOffice$Coil;)V"⟩
abbrev cX5_canBeRun : ByteArray := prog_1_method_40_code
def yX5_canBeRun : MethodName := ⟨RX5, "canBeRun", "(II)Z"⟩
abbrev cX5_slitCoil : ByteArray := prog_1_method_41_code
def yX5_slitCoil : MethodName := ⟨RX5, "slitCoil", "(II)I"⟩
abbrev cX5_deliverSlits : ByteArray := prog_1_method_42_code
def yX5_deliverSlits : MethodName := ⟨RX5, "deliverSlits", "(LSlittingOffice$Coil;)I"⟩
abbrev cX5_takerOf : ByteArray := prog_1_method_43_code
def yX5_takerOf : MethodName := ⟨RX5, "takerOf", "(II)I"⟩
abbrev cX5_movesBetween : ByteArray := prog_1_method_44_code
def yX5_movesBetween : MethodName := ⟨RX5, "movesBetween", "(II)I"⟩
abbrev cX5_coilWaits : ByteArray := prog_1_method_45_code
def yX5_coilWaits : MethodName := ⟨RX5, "coilWaits", "(I)Z"⟩
abbrev cX5_readMoves : ByteArray := prog_1_method_46_code
def yX5_readMoves : MethodName := ⟨RX5, "readMoves", "()V"⟩
def RX6 : String := "SlittingOfficeModel"
def TX6 : u_T := fun k => match k with
  | 0 => ("SlittingOfficeModel", "width", "[I", true)
  | 1 => ("SlittingOfficeModel", "weight", "[I", true)
  | 2 => ("SlittingOfficeModel", "length", "[I", true)
  | 3 => ("SlittingOfficeModel", "heat", "[I", true)
  | 4 => ("SlittingOfficeModel", "coils", "I", false)
  | 5 => ("SlittingOfficeModel", "from", "[I", true)
  | 6 => ("SlittingOfficeModel", "to", "[I", true)
  | 7 => ("SlittingOfficeModel", "defects", "[I", true)
  | 8 => ("SlittingOfficeModel", "edge", "I", false)
  | 9 => ("SlittingOfficeModel", "loss", "I", false)
  | 10 => ("SlittingOfficeModel", "knives", "I", false)
  | 11 => ("SlittingOfficeModel", "wants", "[I", true)
  | 12 => ("SlittingOfficeModel", "most", "[I", true)
  | 13 => ("SlittingOfficeModel", "got", "[I", true)
  | 14 => ("SlittingOfficeModel", "has", "[I", true)
  | 15 => ("SlittingOfficeModel", "orders", "I", false)
  | 16 => ("SlittingOfficeModel", "slit", "[I", true)
  | 17 => ("SlittingOfficeModel", "many", "[I", true)
  | 18 => ("SlittingOfficeModel", "patterns", "I", false)
  | 19 => ("SlittingOfficeModel", "by", "[I", true)
  | 20 => ("SlittingOfficeModel", "weighs", "[I", true)
  | 21 => ("SlittingOfficeModel", "went", "[I", true)
  | 22 => ("SlittingOfficeModel", "lost", "[I", true)
  | 23 => ("SlittingOfficeModel", "setup", "I", false)
  | 24 => ("SlittingOfficeModel", "moved", "I", false)
  | 25 => ("SlittingOfficeModel", "waitCoil", "[I", true)
  | 26 => ("SlittingOfficeModel", "waitPattern", "[I", true)
  | 27 => ("SlittingOfficeModel", "waiting", "I", false)
  | 28 => ("SlittingOfficeModel", "fewest", "[I", true)
  | 29 => ("SlittingOfficeModel", "rest", "[I", true)
  | 30 => ("SlittingOfficeModel", "next", "[I", true)
  | _ => ("SlittingOfficeModel", "thrown", "I", false)
def tyX6 : Nat → FieldType := fun k => match k with
  | 0 => .array .int
  | 1 => .array .int
  | 2 => .array .int
  | 3 => .array .int
  | 4 => .int
  | 5 => .array .int
  | 6 => .array .int
  | 7 => .array .int
  | 8 => .int
  | 9 => .int
  | 10 => .int
  | 11 => .array .int
  | 12 => .array .int
  | 13 => .array .int
  | 14 => .array .int
  | 15 => .int
  | 16 => .array .int
  | 17 => .array .int
  | 18 => .int
  | 19 => .array .int
  | 20 => .array .int
  | 21 => .array .int
  | 22 => .array .int
  | 23 => .int
  | 24 => .int
  | 25 => .array .int
  | 26 => .array .int
  | 27 => .int
  | 28 => .array .int
  | 29 => .array .int
  | 30 => .array .int
  | _ => .int
abbrev wsX60 : List Cond := u_ws RX6 TX6 32
theorem nmX6 : ∀ a, a < 32 → ∀ b, b < 32 → a ≠ b → (TX6 a).2.1 ≠ (TX6 b).2.1 := by decide +kernel
theorem tyX6_ok : ∀ k, k < 32 → parseFieldDescriptor (TX6 k).2.2.1 = some (tyX6 k) := by decide +kernel
abbrev cX6_init : ByteArray := prog_8_method_1_code
def yX6_init : MethodName := ⟨RX6, "<init>", "()V"⟩
abbrev cX6_thrown : ByteArray := prog_8_method_2_code
def yX6_thrown : MethodName := ⟨RX6, "thrown", "()I"⟩
abbrev cX6_in : ByteArray := prog_8_method_3_code
def yX6_in : MethodName := ⟨RX6, "in", "(III)Z"⟩
abbrev cX6_asked : ByteArray := prog_8_method_4_code
def yX6_asked : MethodName := ⟨RX6, "asked", "(Z)Z"⟩
abbrev cX6_asked_ : ByteArray := prog_8_method_5_code
def yX6_asked_ : MethodName := ⟨RX6, "asked", "(ZZ)Z"⟩
abbrev cX6_asked__ : ByteArray := prog_8_method_6_code
def yX6_asked__ : MethodName := ⟨RX6, "asked", "(ZZZ)Z"⟩
abbrev cX6_told : ByteArray := prog_8_method_7_code
def yX6_told : MethodName := ⟨RX6, "told", "(I)I"⟩
abbrev cX6_isCoil : ByteArray := prog_8_method_8_code
def yX6_isCoil : MethodName := ⟨RX6, "isCoil", "(I)Z"⟩
abbrev cX6_isPattern : ByteArray := prog_8_method_9_code
def yX6_isPattern : MethodName := ⟨RX6, "isPattern", "(I)Z"⟩
abbrev cX6_coil : ByteArray := prog_8_method_10_code
def yX6_coil : MethodName := ⟨RX6, "coil", "(IIII)I"⟩
abbrev cX6_cutOut : ByteArray := prog_8_method_11_code
def yX6_cutOut : MethodName := ⟨RX6, "cutOut", "(I)I"⟩
abbrev cX6_defect : ByteArray := prog_8_method_12_code
def yX6_defect : MethodName := ⟨RX6, "defect", "(III)I"⟩
abbrev cX6_setRules : ByteArray := prog_8_method_13_code
def yX6_setRules : MethodName := ⟨RX6, "setRules", "(III)I"⟩
abbrev cX6_order : ByteArray := prog_8_method_14_code
def yX6_order : MethodName := ⟨RX6, "order", "(II)I"⟩
abbrev cX6_drafts : ByteArray := prog_8_method_15_code
def yX6_drafts : MethodName := ⟨RX6, "drafts", "(I)V"⟩
abbrev cX6_addSlit : ByteArray := prog_8_method_16_code
def yX6_addSlit : MethodName := ⟨RX6, "addSlit", "(I)I"⟩
abbrev cX6_clearDraft : ByteArray := prog_8_method_17_code
def yX6_clearDraft : MethodName := ⟨RX6, "clearDraft", "()I"⟩
abbrev cX6_draftSlits : ByteArray := prog_8_method_18_code
def yX6_draftSlits : MethodName := ⟨RX6, "draftSlits", "()I"⟩
abbrev cX6_draftWidth : ByteArray := prog_8_method_19_code
def yX6_draftWidth : MethodName := ⟨RX6, "draftWidth", "(I)I"⟩
abbrev cX6_keep : ByteArray := prog_8_method_20_code
def yX6_keep : MethodName := ⟨RX6, "keep", "()I"⟩
abbrev cX6_canRun : ByteArray := prog_8_method_21_code
def yX6_canRun : MethodName := ⟨RX6, "canRun", "(II)Z"⟩
abbrev cX6_fits : ByteArray := prog_8_method_22_code
def yX6_fits : MethodName := ⟨RX6, "fits", "(II)Z"⟩
abbrev cX6_takes : ByteArray := prog_8_method_23_code
def yX6_takes : MethodName := ⟨RX6, "takes", "(II)Z"⟩
abbrev cX6_fullest : ByteArray := prog_8_method_24_code
def yX6_fullest : MethodName := ⟨RX6, "fullest", "(I)I"⟩
abbrev cX6_fill : ByteArray := prog_8_method_25_code
def yX6_fill : MethodName := ⟨RX6, "fill", "(I)I"⟩
abbrev cX6_fullestByTrying : ByteArray := prog_8_method_26_code
def yX6_fullestByTrying : MethodName := ⟨RX6, "fullestByTrying", "(I)I"⟩
abbrev cX6_isPosition : ByteArray := prog_8_method_27_code
def yX6_isPosition : MethodName := ⟨RX6, "isPosition", "(II)Z"⟩
abbrev cX6_movesFrom : ByteArray := prog_8_method_28_code
def yX6_movesFrom : MethodName := ⟨RX6, "movesFrom", "(II)I"⟩
abbrev cX6_runs : ByteArray := prog_8_method_29_code
def yX6_runs : MethodName := ⟨RX6, "runs", "(II)I"⟩
abbrev cX6_run : ByteArray := prog_8_method_30_code
def yX6_run : MethodName := ⟨RX6, "run", "(II)I"⟩
abbrev cX6_moves : ByteArray := prog_8_method_31_code
def yX6_moves : MethodName := ⟨RX6, "moves", "(I)I"⟩
abbrev cX6_moved : ByteArray := prog_8_method_32_code
def yX6_moved : MethodName := ⟨RX6, "moved", "()I"⟩
abbrev cX6_plan : ByteArray := prog_8_method_33_code
def yX6_plan : MethodName := ⟨RX6, "plan", "(II)I"⟩
abbrev cX6_waiting : ByteArray := prog_8_method_34_code
def yX6_waiting : MethodName := ⟨RX6, "waiting", "()I"⟩
abbrev cX6_between : ByteArray := prog_8_method_35_code
def yX6_between : MethodName := ⟨RX6, "between", "(II)I"⟩
abbrev cX6_best : ByteArray := prog_8_method_36_code
def yX6_best : MethodName := ⟨RX6, "best", "()I"⟩
abbrev cX6_fewestMoves : ByteArray := prog_8_method_37_code
def yX6_fewestMoves : MethodName := ⟨RX6, "fewestMoves", "()I"⟩
abbrev cX6_fewestByTrying : ByteArray := prog_8_method_38_code
def yX6_fewestByTrying : MethodName := ⟨RX6, "fewestByTrying", "()I"⟩
abbrev cX6_nextAt : ByteArray := prog_8_method_39_code
def yX6_nextAt : MethodName := ⟨RX6, "nextAt", "(I)I"⟩
abbrev cX6_runAll : ByteArray := prog_8_method_40_code
def yX6_runAll : MethodName := ⟨RX6, "runAll", "()I"⟩
abbrev cX6_slits : ByteArray := prog_8_method_41_code
def yX6_slits : MethodName := ⟨RX6, "slits", "(I)I"⟩
abbrev cX6_isSlit : ByteArray := prog_8_method_42_code
def yX6_isSlit : MethodName := ⟨RX6, "isSlit", "(II)Z"⟩
abbrev cX6_slitWeight : ByteArray := prog_8_method_43_code
def yX6_slitWeight : MethodName := ⟨RX6, "slitWeight", "(II)I"⟩
abbrev cX6_slitOrder : ByteArray := prog_8_method_44_code
def yX6_slitOrder : MethodName := ⟨RX6, "slitOrder", "(II)I"⟩
abbrev cX6_lost : ByteArray := prog_8_method_45_code
def yX6_lost : MethodName := ⟨RX6, "lost", "(II)I"⟩
abbrev cX6_isOrder : ByteArray := prog_8_method_46_code
def yX6_isOrder : MethodName := ⟨RX6, "isOrder", "(I)Z"⟩
abbrev cX6_delivered : ByteArray := prog_8_method_47_code
def yX6_delivered : MethodName := ⟨RX6, "delivered", "(I)I"⟩
abbrev cX6_heatOf : ByteArray := prog_8_method_48_code
def yX6_heatOf : MethodName := ⟨RX6, "heatOf", "(I)I"⟩
abbrev cX6_stock : ByteArray := prog_8_method_49_code
def yX6_stock : MethodName := ⟨RX6, "stock", "(I)I"⟩
def RJ9 : String := "java/lang/Math"
def TJ9 : u_T := fun k => match k with
  | _ => ("", "", "", false)
def tyJ9 : Nat → FieldType := fun k => match k with
  | _ => .int
abbrev wsJ90 : List Cond := u_ws RJ9 TJ9 0
theorem nmJ9 : ∀ a, a < 0 → ∀ b, b < 0 → a ≠ b → (TJ9 a).2.1 ≠ (TJ9 b).2.1 := by decide +kernel
theorem tyJ9_ok : ∀ k, k < 0 → parseFieldDescriptor (TJ9 k).2.2.1 = some (tyJ9 k) := by decide +kernel
abbrev cJ9_max_7cf53 : ByteArray := prog_13_method_65_code
def yJ9_max_7cf53 : MethodName := ⟨RJ9, "max", "(II)I"⟩
abbrev cJ9_min_7cf53 : ByteArray := prog_13_method_69_code
def yJ9_min_7cf53 : MethodName := ⟨RJ9, "min", "(II)I"⟩
def RJ0 : String := "java/lang/String"
def TJ0 : u_T := fun k => match k with
  | _ => ("", "", "", false)
def tyJ0 : Nat → FieldType := fun k => match k with
  | _ => .int
abbrev wsJ00 : List Cond := u_ws RJ0 TJ0 0
theorem nmJ0 : ∀ a, a < 0 → ∀ b, b < 0 → a ≠ b → (TJ0 a).2.1 ≠ (TJ0 b).2.1 := by decide +kernel
theorem tyJ0_ok : ∀ k, k < 0 → parseFieldDescriptor (TJ0 k).2.2.1 = some (tyJ0 k) := by decide +kernel
def RL : String := "SlittingOfficeLaw"
abbrev cL_coil : ByteArray := method_3_code
def yL_coil : MethodName := ⟨RL, "coil", "(LSlittingOffice;IIII[J)I"⟩
abbrev cL_defect : ByteArray := method_4_code
def yL_defect : MethodName := ⟨RL, "defect", "(LSlittingOffice;III[J)I"⟩
abbrev cL_setRules : ByteArray := method_5_code
def yL_setRules : MethodName := ⟨RL, "setRules", "(LSlittingOffice;III[J)I"⟩
abbrev cL_order : ByteArray := method_6_code
def yL_order : MethodName := ⟨RL, "order", "(LSlittingOffice;II[J)I"⟩
abbrev cL_addSlit : ByteArray := method_7_code
def yL_addSlit : MethodName := ⟨RL, "addSlit", "(LSlittingOffice;I[J)I"⟩
abbrev cL_draftWidth : ByteArray := method_8_code
def yL_draftWidth : MethodName := ⟨RL, "draftWidth", "(LSlittingOffice;I[J)I"⟩
abbrev cL_keep : ByteArray := method_9_code
def yL_keep : MethodName := ⟨RL, "keep", "(LSlittingOffice;[J)I"⟩
abbrev cL_fits : ByteArray := method_10_code
def yL_fits : MethodName := ⟨RL, "fits", "(LSlittingOffice;II[J)I"⟩
abbrev cL_fill : ByteArray := method_11_code
def yL_fill : MethodName := ⟨RL, "fill", "(LSlittingOffice;I[J)I"⟩
abbrev cL_fullestByTrying : ByteArray := method_12_code
def yL_fullestByTrying : MethodName := ⟨RL, "fullestByTrying", "(LSlittingOffice;I[J)I"⟩
abbrev cL_run : ByteArray := method_13_code
def yL_run : MethodName := ⟨RL, "run", "(LSlittingOffice;II[J)I"⟩
abbrev cL_moves : ByteArray := method_14_code
def yL_moves : MethodName := ⟨RL, "moves", "(LSlittingOffice;I[J)I"⟩
abbrev cL_plan : ByteArray := method_15_code
def yL_plan : MethodName := ⟨RL, "plan", "(LSlittingOffice;II[J)I"⟩
abbrev cL_nextAt : ByteArray := method_16_code
def yL_nextAt : MethodName := ⟨RL, "nextAt", "(LSlittingOffice;I[J)I"⟩
abbrev cL_slits : ByteArray := method_17_code
def yL_slits : MethodName := ⟨RL, "slits", "(LSlittingOffice;I[J)I"⟩
abbrev cL_slitWeight : ByteArray := method_18_code
def yL_slitWeight : MethodName := ⟨RL, "slitWeight", "(LSlittingOffice;II[J)I"⟩
abbrev cL_slitOrder : ByteArray := method_19_code
def yL_slitOrder : MethodName := ⟨RL, "slitOrder", "(LSlittingOffice;II[J)I"⟩
abbrev cL_lost : ByteArray := method_20_code
def yL_lost : MethodName := ⟨RL, "lost", "(LSlittingOffice;II[J)I"⟩
abbrev cL_delivered : ByteArray := method_21_code
def yL_delivered : MethodName := ⟨RL, "delivered", "(LSlittingOffice;I[J)I"⟩
abbrev cL_heatOf : ByteArray := method_22_code
def yL_heatOf : MethodName := ⟨RL, "heatOf", "(LSlittingOffice;I[J)I"⟩
abbrev cL_law : ByteArray := code
def yL_law : MethodName := ⟨RL, "law", "([I)Z"⟩
def wsJ9_max_7cf53 : List Cond := .code yJ9_max_7cf53 cJ9_max_7cf53 2 (some .int) :: ([])
def wsJ9_min_7cf53 : List Cond := .code yJ9_min_7cf53 cJ9_min_7cf53 2 (some .int) :: ([])
def wsL_law0_r1 : List Cond := [Cond.classLink RL 8 RX5, Cond.instantiable RX5 17, Cond.initialized RX5, Cond.classLink RL 82 RX6, Cond.instantiable RX6 32, Cond.initialized RX6, Cond.arrayClass .long, Cond.methodLink RL 81 yX5_init, Cond.instanceMethod yX5_init, Cond.code yX5_init cX5_init 2 none, Cond.methodLink RX5 1 objectInit, Cond.instanceMethod objectInit, Cond.code objectInit ⟨#[0xb1]⟩ 1 none, Cond.classLink RX5 9 RX0, Cond.fieldLink RX5 11 "SlittingOffice" "coils" "[LSlittingOffice$Coil;", Cond.fieldLink RX5 15 "SlittingOffice" "coilCount" "I", Cond.classLink RX5 19 RX2, Cond.fieldLink RX5 21 "SlittingOffice" "orders" "[LSlittingOffice$Order;", Cond.fieldLink RX5 25 "SlittingOffice" "orderCount" "I", Cond.classLink RX5 28 RX3, Cond.fieldLink RX5 30 "SlittingOffice" "patterns" "[LSlittingOffice$Pattern;", Cond.fieldLink RX5 34 "SlittingOffice" "patternCount" "I", Cond.instantiable RX3 2, Cond.initialized RX3]
def wsL_law0_r2 : List Cond := [Cond.fieldLink RX5 38 "SlittingOffice" "draft" "LSlittingOffice$Pattern;", Cond.fieldLink RX5 42 "SlittingOffice" "edge" "I", Cond.fieldLink RX5 45 "SlittingOffice" "loss" "I", Cond.fieldLink RX5 48 "SlittingOffice" "knives" "I", Cond.fieldLink RX5 51 "SlittingOffice" "setup" "I", Cond.fieldLink RX5 54 "SlittingOffice" "movedKnives" "I", Cond.arrayClass .int, Cond.fieldLink RX5 57 "SlittingOffice" "waitingCoils" "[I", Cond.fieldLink RX5 61 "SlittingOffice" "waitingPatterns" "[I", Cond.fieldLink RX5 64 "SlittingOffice" "waitingCount" "I", Cond.classLink RX5 67 RX1, Cond.instantiable RX1 3, Cond.initialized RX1, Cond.fieldLink RX5 70 "SlittingOffice" "filling" "LSlittingOffice$Filling;", Cond.classLink RX5 74 RX4, Cond.instantiable RX4 3, Cond.initialized RX4, Cond.fieldLink RX5 77 "SlittingOffice" "runOrder" "LSlittingOffice$RunOrder;", Cond.instantiable RX0 14, Cond.initialized RX0, Cond.instantiable RX2 4, Cond.initialized RX2, Cond.instanceMethod yX3_init, Cond.code yX3_init cX3_init 1 none]
def wsL_law0_r3 : List Cond := [Cond.methodLink RX3 3 objectInit, Cond.fieldLink RX3 9 "SlittingOffice$Pattern" "widths" "[I", Cond.fieldLink RX3 15 "SlittingOffice$Pattern" "count" "I", Cond.instanceMethod yX1_init, Cond.code yX1_init cX1_init 1 none, Cond.methodLink RX1 3 objectInit, Cond.fieldLink RX1 9 "SlittingOffice$Filling" "widths" "[I", Cond.fieldLink RX1 15 "SlittingOffice$Filling" "widthCount" "I", Cond.fieldLink RX1 19 "SlittingOffice$Filling" "fewestSlits" "[I", Cond.instanceMethod yX4_init, Cond.code yX4_init cX4_init 1 none, Cond.methodLink RX4 3 objectInit, Cond.classLink RX4 9 "[[I", Cond.fieldLink RX4 11 "SlittingOffice$RunOrder" "moves" "[[I", Cond.fieldLink RX4 16 "SlittingOffice$RunOrder" "fewest" "[[I", Cond.fieldLink RX4 19 "SlittingOffice$RunOrder" "best" "[I", Cond.instanceMethod yX0_init, Cond.code yX0_init cX0_init 1 none, Cond.methodLink RX0 3 objectInit, Cond.fieldLink RX0 9 "SlittingOffice$Coil" "width" "I", Cond.fieldLink RX0 15 "SlittingOffice$Coil" "weight" "I", Cond.fieldLink RX0 18 "SlittingOffice$Coil" "length" "I", Cond.fieldLink RX0 21 "SlittingOffice$Coil" "heat" "I", Cond.fieldLink RX0 24 "SlittingOffice$Coil" "defectFroms" "[I"]
def wsL_law0_r4 : List Cond := [Cond.fieldLink RX0 28 "SlittingOffice$Coil" "defectTos" "[I", Cond.fieldLink RX0 31 "SlittingOffice$Coil" "defectCount" "I", Cond.fieldLink RX0 34 "SlittingOffice$Coil" "slitWidths" "[I", Cond.fieldLink RX0 37 "SlittingOffice$Coil" "slitWeights" "[I", Cond.fieldLink RX0 40 "SlittingOffice$Coil" "slitOrders" "[I", Cond.fieldLink RX0 43 "SlittingOffice$Coil" "slitCount" "I", Cond.fieldLink RX0 46 "SlittingOffice$Coil" "innerTurns" "I", Cond.fieldLink RX0 49 "SlittingOffice$Coil" "cutOut" "I", Cond.fieldLink RX0 52 "SlittingOffice$Coil" "trim" "I", Cond.instanceMethod yX2_init, Cond.code yX2_init cX2_init 1 none, Cond.methodLink RX2 3 objectInit, Cond.fieldLink RX2 9 "SlittingOffice$Order" "width" "I", Cond.fieldLink RX2 15 "SlittingOffice$Order" "weight" "I", Cond.fieldLink RX2 18 "SlittingOffice$Order" "received" "I", Cond.fieldLink RX2 21 "SlittingOffice$Order" "heat" "I", Cond.methodLink RL 84 yX6_init, Cond.instanceMethod yX6_init, Cond.code yX6_init cX6_init 1 none, Cond.methodLink RX6 1 objectInit, Cond.fieldLink RX6 7 "SlittingOfficeModel" "width" "[I", Cond.fieldLink RX6 13 "SlittingOfficeModel" "weight" "[I", Cond.fieldLink RX6 16 "SlittingOfficeModel" "length" "[I", Cond.fieldLink RX6 19 "SlittingOfficeModel" "heat" "[I"]
def wsL_law0_r5 : List Cond := [Cond.fieldLink RX6 22 "SlittingOfficeModel" "from" "[I", Cond.fieldLink RX6 25 "SlittingOfficeModel" "to" "[I", Cond.fieldLink RX6 28 "SlittingOfficeModel" "defects" "[I", Cond.fieldLink RX6 31 "SlittingOfficeModel" "edge" "I", Cond.fieldLink RX6 35 "SlittingOfficeModel" "loss" "I", Cond.fieldLink RX6 38 "SlittingOfficeModel" "knives" "I", Cond.fieldLink RX6 41 "SlittingOfficeModel" "wants" "[I", Cond.fieldLink RX6 44 "SlittingOfficeModel" "most" "[I", Cond.fieldLink RX6 47 "SlittingOfficeModel" "got" "[I", Cond.fieldLink RX6 50 "SlittingOfficeModel" "has" "[I", Cond.fieldLink RX6 53 "SlittingOfficeModel" "slit" "[I", Cond.fieldLink RX6 56 "SlittingOfficeModel" "many" "[I", Cond.fieldLink RX6 59 "SlittingOfficeModel" "by" "[I", Cond.fieldLink RX6 62 "SlittingOfficeModel" "weighs" "[I", Cond.fieldLink RX6 65 "SlittingOfficeModel" "went" "[I", Cond.fieldLink RX6 68 "SlittingOfficeModel" "lost" "[I", Cond.fieldLink RX6 71 "SlittingOfficeModel" "setup" "I", Cond.fieldLink RX6 74 "SlittingOfficeModel" "waitCoil" "[I", Cond.fieldLink RX6 77 "SlittingOfficeModel" "waitPattern" "[I", Cond.fieldLink RX6 80 "SlittingOfficeModel" "fewest" "[I", Cond.fieldLink RX6 83 "SlittingOfficeModel" "rest" "[I", Cond.fieldLink RX6 86 "SlittingOfficeModel" "next" "[I", Cond.methodLink RL 85 yL_coil, Cond.static yL_coil]
def wsL_law0_r6 : List Cond := [Cond.initialized RL, Cond.codeWith yL_coil cL_coil 7 (some .int) [(0, 14, 17, 13), (0, 14, 21, 15)], Cond.classLink RL 13 "java/lang/IllegalArgumentException", Cond.classLink RL 15 "java/lang/IllegalStateException", Cond.methodLink RL 7 yX5_coil, Cond.instanceMethod yX5_coil, Cond.selects RX5 yX5_coil yX5_coil, Cond.code yX5_coil cX5_coil 5 (some .int), Cond.classLink RX5 87 "java/lang/IllegalStateException", Cond.initialized "java/lang/IllegalStateException", Cond.methodLink RX5 83 yX5_requireRange, Cond.static yX5_requireRange, Cond.code yX5_requireRange cX5_requireRange 3 none, Cond.classLink RX5 255 "java/lang/IllegalArgumentException", Cond.initialized "java/lang/IllegalArgumentException", Cond.instanceMethod yX0_describe, Cond.selects RX0 yX0_describe yX0_describe, Cond.code yX0_describe cX0_describe 5 none, Cond.methodLink RL 90 yX6_coil, Cond.instanceMethod yX6_coil, Cond.selects RX6 yX6_coil yX6_coil, Cond.code yX6_coil cX6_coil 6 (some .int), Cond.fieldLink RX6 92 "SlittingOfficeModel" "coils" "I", Cond.methodLink RX6 95 yX6_in]
def wsL_law0_r7 : List Cond := [Cond.static yX6_in, Cond.code yX6_in cX6_in 3 (some .boolean), Cond.methodLink RX6 102 yX6_asked_, Cond.instanceMethod yX6_asked_, Cond.selects RX6 yX6_asked_ yX6_asked_, Cond.code yX6_asked_ cX6_asked_ 3 (some .boolean), Cond.fieldLink RX6 89 "SlittingOfficeModel" "thrown" "I", Cond.methodLink RL 91 yX6_thrown, Cond.instanceMethod yX6_thrown, Cond.selects RX6 yX6_thrown yX6_thrown, Cond.code yX6_thrown cX6_thrown 1 (some .int), Cond.methodLink RL 94 yL_defect, Cond.static yL_defect, Cond.codeWith yL_defect cL_defect 6 (some .int) [(0, 12, 15, 21), (0, 12, 19, 13), (0, 12, 23, 15)], Cond.classLink RL 21 "java/lang/IndexOutOfBoundsException", Cond.methodLink RL 17 yX5_defect, Cond.instanceMethod yX5_defect, Cond.selects RX5 yX5_defect yX5_defect, Cond.code yX5_defect cX5_defect 5 (some .int), Cond.methodLink RX5 98 yX5_requireCoil, Cond.instanceMethod yX5_requireCoil, Cond.selects RX5 yX5_requireCoil yX5_requireCoil, Cond.code yX5_requireCoil cX5_requireCoil 2 none, Cond.classLink RX5 145 "java/lang/IndexOutOfBoundsException"]
def wsL_law0_r8 : List Cond := [Cond.initialized "java/lang/IndexOutOfBoundsException", Cond.methodLink RX5 260 yX5_hasCoil, Cond.instanceMethod yX5_hasCoil, Cond.selects RX5 yX5_hasCoil yX5_hasCoil, Cond.code yX5_hasCoil cX5_hasCoil 2 (some .boolean), Cond.instanceMethod yX0_isSlit, Cond.selects RX0 yX0_isSlit yX0_isSlit, Cond.code yX0_isSlit cX0_isSlit 1 (some .boolean), Cond.instanceMethod yX0_hasMostDefects, Cond.selects RX0 yX0_hasMostDefects yX0_hasMostDefects, Cond.code yX0_hasMostDefects cX0_hasMostDefects 1 (some .boolean), Cond.instanceMethod yX0_addDefect, Cond.selects RX0 yX0_addDefect yX0_addDefect, Cond.code yX0_addDefect cX0_addDefect 4 none, Cond.methodLink RX0 55 yX0_hasMostDefects, Cond.instanceMethod yX0_cutOutLength, Cond.selects RX0 yX0_cutOutLength yX0_cutOutLength, Cond.code yX0_cutOutLength cX0_cutOutLength 5 (some .int), Cond.methodLink RX0 59 Lib.Math.max.name, Cond.static Lib.Math.max.name, Cond.initialized "java/lang/Math", Cond.code Lib.Math.max.name Lib.Math.max.code 2 (some .int), Cond.methodLink RL 97 yX6_defect, Cond.instanceMethod yX6_defect]
def wsL_law0_r9 : List Cond := [Cond.selects RX6 yX6_defect yX6_defect, Cond.code yX6_defect cX6_defect 6 (some .int), Cond.methodLink RX6 106 yX6_isCoil, Cond.instanceMethod yX6_isCoil, Cond.selects RX6 yX6_isCoil yX6_isCoil, Cond.code yX6_isCoil cX6_isCoil 2 (some .boolean), Cond.methodLink RX6 110 yX6_asked__, Cond.instanceMethod yX6_asked__, Cond.selects RX6 yX6_asked__ yX6_asked__, Cond.code yX6_asked__ cX6_asked__ 4 (some .boolean), Cond.methodLink RX6 113 yX6_cutOut, Cond.instanceMethod yX6_cutOut, Cond.selects RX6 yX6_cutOut yX6_cutOut, Cond.code yX6_cutOut cX6_cutOut 6 (some .int), Cond.methodLink RL 98 yL_setRules, Cond.static yL_setRules, Cond.codeWith yL_setRules cL_setRules 6 (some .int) [(0, 12, 15, 13)], Cond.methodLink RL 23 yX5_setRules, Cond.instanceMethod yX5_setRules, Cond.selects RX5 yX5_setRules yX5_setRules, Cond.code yX5_setRules cX5_setRules 5 (some .int), Cond.methodLink RL 100 yX6_setRules, Cond.instanceMethod yX6_setRules, Cond.selects RX6 yX6_setRules yX6_setRules]
def wsL_law0_r10 : List Cond := [Cond.code yX6_setRules cX6_setRules 5 (some .int), Cond.methodLink RX6 117 yX6_asked, Cond.instanceMethod yX6_asked, Cond.selects RX6 yX6_asked yX6_asked, Cond.code yX6_asked cX6_asked 2 (some .boolean), Cond.methodLink RL 101 yL_order, Cond.static yL_order, Cond.codeWith yL_order cL_order 5 (some .int) [(0, 10, 13, 13), (0, 10, 17, 15)], Cond.methodLink RL 26 yX5_order, Cond.instanceMethod yX5_order, Cond.selects RX5 yX5_order yX5_order, Cond.code yX5_order cX5_order 3 (some .int), Cond.constant RX5 122 (50000), Cond.instanceMethod yX2_describe, Cond.selects RX2 yX2_describe yX2_describe, Cond.code yX2_describe cX2_describe 3 none, Cond.methodLink RL 104 yX6_order, Cond.instanceMethod yX6_order, Cond.selects RX6 yX6_order yX6_order, Cond.code yX6_order cX6_order 3 (some .int), Cond.constant RX6 120 (50000), Cond.fieldLink RX6 121 "SlittingOfficeModel" "orders" "I", Cond.methodLink RL 105 yL_addSlit, Cond.static yL_addSlit]
def wsL_law0_r11 : List Cond := [Cond.codeWith yL_addSlit cL_addSlit 4 (some .int) [(0, 9, 12, 13), (0, 9, 15, 15)], Cond.methodLink RL 30 yX5_addSlit, Cond.instanceMethod yX5_addSlit, Cond.selects RX5 yX5_addSlit yX5_addSlit, Cond.code yX5_addSlit cX5_addSlit 2 (some .int), Cond.instanceMethod yX3_isFull, Cond.selects RX3 yX3_isFull yX3_isFull, Cond.code yX3_isFull cX3_isFull 1 (some .boolean), Cond.instanceMethod yX3_append, Cond.selects RX3 yX3_append yX3_append, Cond.code yX3_append cX3_append 2 none, Cond.methodLink RX3 19 yX3_isFull, Cond.methodLink RL 108 yX6_addSlit, Cond.instanceMethod yX6_addSlit, Cond.selects RX6 yX6_addSlit yX6_addSlit, Cond.code yX6_addSlit cX6_addSlit 2 (some .int), Cond.methodLink RX6 124 yX6_drafts, Cond.instanceMethod yX6_drafts, Cond.selects RX6 yX6_drafts yX6_drafts, Cond.code yX6_drafts cX6_drafts 2 none, Cond.methodLink RL 109 yX5_clearDraft, Cond.instanceMethod yX5_clearDraft, Cond.selects RX5 yX5_clearDraft yX5_clearDraft, Cond.code yX5_clearDraft cX5_clearDraft 2 (some .int)]
def wsL_law0_r12 : List Cond := [Cond.instanceMethod yX3_empty, Cond.selects RX3 yX3_empty yX3_empty, Cond.code yX3_empty cX3_empty 1 none, Cond.methodLink RL 112 yX6_clearDraft, Cond.instanceMethod yX6_clearDraft, Cond.selects RX6 yX6_clearDraft yX6_clearDraft, Cond.code yX6_clearDraft cX6_clearDraft 2 (some .int), Cond.methodLink RX6 128 yX6_told, Cond.instanceMethod yX6_told, Cond.selects RX6 yX6_told yX6_told, Cond.code yX6_told cX6_told 2 (some .int), Cond.methodLink RL 113 yX5_draftSlits, Cond.instanceMethod yX5_draftSlits, Cond.selects RX5 yX5_draftSlits yX5_draftSlits, Cond.code yX5_draftSlits cX5_draftSlits 1 (some .int), Cond.methodLink RL 116 yX6_draftSlits, Cond.instanceMethod yX6_draftSlits, Cond.selects RX6 yX6_draftSlits yX6_draftSlits, Cond.code yX6_draftSlits cX6_draftSlits 1 (some .int), Cond.methodLink RL 117 yL_draftWidth, Cond.static yL_draftWidth, Cond.codeWith yL_draftWidth cL_draftWidth 4 (some .int) [(0, 9, 12, 21)], Cond.methodLink RL 34 yX5_draftWidth, Cond.instanceMethod yX5_draftWidth]
def wsL_law0_r13 : List Cond := [Cond.selects RX5 yX5_draftWidth yX5_draftWidth, Cond.code yX5_draftWidth cX5_draftWidth 2 (some .int), Cond.instanceMethod yX3_hasSlitAt, Cond.selects RX3 yX3_hasSlitAt yX3_hasSlitAt, Cond.code yX3_hasSlitAt cX3_hasSlitAt 2 (some .boolean), Cond.methodLink RL 119 yX6_draftWidth, Cond.instanceMethod yX6_draftWidth, Cond.selects RX6 yX6_draftWidth yX6_draftWidth, Cond.code yX6_draftWidth cX6_draftWidth 2 (some .int), Cond.methodLink RL 120 yL_keep, Cond.static yL_keep, Cond.codeWith yL_keep cL_keep 3 (some .int) [(0, 8, 11, 15)], Cond.methodLink RL 37 yX5_keep, Cond.instanceMethod yX5_keep, Cond.selects RX5 yX5_keep yX5_keep, Cond.code yX5_keep cX5_keep 1 (some .int), Cond.instanceMethod yX3_becomeCopyOf, Cond.selects RX3 yX3_becomeCopyOf yX3_becomeCopyOf, Cond.code yX3_becomeCopyOf cX3_becomeCopyOf 3 none, Cond.methodLink RX3 23 yX3_empty, Cond.methodLink RX3 26 yX3_append, Cond.methodLink RL 123 yX6_keep, Cond.instanceMethod yX6_keep, Cond.selects RX6 yX6_keep yX6_keep]
def wsL_law0_r14 : List Cond := [Cond.code yX6_keep cX6_keep 2 (some .int), Cond.fieldLink RX6 99 "SlittingOfficeModel" "patterns" "I", Cond.methodLink RL 124 yL_fits, Cond.static yL_fits, Cond.codeWith yL_fits cL_fits 5 (some .int) [(0, 17, 20, 21)], Cond.methodLink RL 41 yX5_fits, Cond.instanceMethod yX5_fits, Cond.selects RX5 yX5_fits yX5_fits, Cond.code yX5_fits cX5_fits 3 (some .boolean), Cond.methodLink RX5 159 yX5_requirePattern, Cond.instanceMethod yX5_requirePattern, Cond.selects RX5 yX5_requirePattern yX5_requirePattern, Cond.code yX5_requirePattern cX5_requirePattern 2 none, Cond.methodLink RX5 265 yX5_hasPattern, Cond.instanceMethod yX5_hasPattern, Cond.selects RX5 yX5_hasPattern yX5_hasPattern, Cond.code yX5_hasPattern cX5_hasPattern 2 (some .boolean), Cond.methodLink RX5 162 yX5_canBeCutFrom, Cond.instanceMethod yX5_canBeCutFrom, Cond.selects RX5 yX5_canBeCutFrom yX5_canBeCutFrom, Cond.code yX5_canBeCutFrom cX5_canBeCutFrom 3 (some .boolean), Cond.instanceMethod yX3_totalWidth, Cond.selects RX3 yX3_totalWidth yX3_totalWidth, Cond.code yX3_totalWidth cX3_totalWidth 3 (some .int)]
def wsL_law0_r15 : List Cond := [Cond.methodLink RX5 170 yX5_roomOf, Cond.instanceMethod yX5_roomOf, Cond.selects RX5 yX5_roomOf yX5_roomOf, Cond.code yX5_roomOf cX5_roomOf 2 (some .int), Cond.instanceMethod yX3_knivesNeeded, Cond.selects RX3 yX3_knivesNeeded yX3_knivesNeeded, Cond.code yX3_knivesNeeded cX3_knivesNeeded 1 (some .int), Cond.methodLink RL 126 yX6_fits, Cond.instanceMethod yX6_fits, Cond.selects RX6 yX6_fits yX6_fits, Cond.code yX6_fits cX6_fits 3 (some .boolean), Cond.methodLink RX6 131 yX6_isPattern, Cond.instanceMethod yX6_isPattern, Cond.selects RX6 yX6_isPattern yX6_isPattern, Cond.code yX6_isPattern cX6_isPattern 2 (some .boolean), Cond.methodLink RX6 134 yX6_canRun, Cond.instanceMethod yX6_canRun, Cond.selects RX6 yX6_canRun yX6_canRun, Cond.code yX6_canRun cX6_canRun 5 (some .boolean), Cond.methodLink RL 127 yL_fill, Cond.static yL_fill, Cond.codeWith yL_fill cL_fill 4 (some .int) [(0, 9, 12, 21)], Cond.methodLink RL 45 yX5_fill, Cond.instanceMethod yX5_fill]
def wsL_law0_r16 : List Cond := [Cond.selects RX5 yX5_fill yX5_fill, Cond.code yX5_fill cX5_fill 3 (some .int), Cond.methodLink RX5 166 yX5_offerWidthsFor, Cond.instanceMethod yX5_offerWidthsFor, Cond.selects RX5 yX5_offerWidthsFor yX5_offerWidthsFor, Cond.code yX5_offerWidthsFor cX5_offerWidthsFor 3 none, Cond.instanceMethod yX1_forgetWidths, Cond.selects RX1 yX1_forgetWidths yX1_forgetWidths, Cond.code yX1_forgetWidths cX1_forgetWidths 1 none, Cond.instanceMethod yX2_wouldTakeHeat, Cond.selects RX2 yX2_wouldTakeHeat yX2_wouldTakeHeat, Cond.code yX2_wouldTakeHeat cX2_wouldTakeHeat 2 (some .boolean), Cond.instanceMethod yX1_offerWidth, Cond.selects RX1 yX1_offerWidth yX1_offerWidth, Cond.code yX1_offerWidth cX1_offerWidth 5 none, Cond.instanceMethod yX1_greatestTotal, Cond.selects RX1 yX1_greatestTotal yX1_greatestTotal, Cond.code yX1_greatestTotal cX1_greatestTotal 5 (some .int), Cond.methodLink RX1 22 yX1_fewestSlitsFor, Cond.instanceMethod yX1_fewestSlitsFor, Cond.selects RX1 yX1_fewestSlitsFor yX1_fewestSlitsFor, Cond.code yX1_fewestSlitsFor cX1_fewestSlitsFor 4 (some .int), Cond.methodLink RX1 26 Lib.Math.min.name, Cond.static Lib.Math.min.name]
def wsL_law0_r17 : List Cond := [Cond.code Lib.Math.min.name Lib.Math.min.code 2 (some .int), Cond.instanceMethod yX1_layOut, Cond.selects RX1 yX1_layOut yX1_layOut, Cond.code yX1_layOut cX1_layOut 6 none, Cond.methodLink RX1 37 yX1_greatestBefore, Cond.instanceMethod yX1_greatestBefore, Cond.selects RX1 yX1_greatestBefore yX1_greatestBefore, Cond.code yX1_greatestBefore cX1_greatestBefore 4 (some .int), Cond.methodLink RL 129 yX6_fill, Cond.instanceMethod yX6_fill, Cond.selects RX6 yX6_fill yX6_fill, Cond.code yX6_fill cX6_fill 7 (some .int), Cond.methodLink RX6 141 yX6_fullest, Cond.instanceMethod yX6_fullest, Cond.selects RX6 yX6_fullest yX6_fullest, Cond.code yX6_fullest cX6_fullest 6 (some .int), Cond.methodLink RX6 138 yX6_takes, Cond.instanceMethod yX6_takes, Cond.selects RX6 yX6_takes yX6_takes, Cond.code yX6_takes cX6_takes 3 (some .boolean), Cond.methodLink RL 130 yL_fullestByTrying, Cond.static yL_fullestByTrying, Cond.codeWith yL_fullestByTrying cL_fullestByTrying 4 (some .int) [(0, 9, 12, 21), (0, 9, 15, 15)], Cond.methodLink RL 48 yX5_fullestByTrying]
def wsL_law0_r18 : List Cond := [Cond.instanceMethod yX5_fullestByTrying, Cond.selects RX5 yX5_fullestByTrying yX5_fullestByTrying, Cond.code yX5_fullestByTrying cX5_fullestByTrying 2 (some .int), Cond.instanceMethod yX1_greatestTotalByTrying, Cond.selects RX1 yX1_greatestTotalByTrying yX1_greatestTotalByTrying, Cond.code yX1_greatestTotalByTrying cX1_greatestTotalByTrying 3 (some .int), Cond.methodLink RX1 44 yX1_tryFrom, Cond.static yX1_tryFrom, Cond.code yX1_tryFrom cX1_tryFrom 8 (some .int), Cond.methodLink RX1 48 Lib.Math.max.name, Cond.methodLink RL 132 yX6_fullestByTrying, Cond.instanceMethod yX6_fullestByTrying, Cond.selects RX6 yX6_fullestByTrying yX6_fullestByTrying, Cond.code yX6_fullestByTrying cX6_fullestByTrying 3 (some .int), Cond.methodLink RL 133 yL_run, Cond.static yL_run, Cond.codeWith yL_run cL_run 5 (some .int) [(0, 10, 13, 21), (0, 10, 17, 15)], Cond.methodLink RL 51 yX5_run, Cond.instanceMethod yX5_run, Cond.selects RX5 yX5_run yX5_run, Cond.code yX5_run cX5_run 3 (some .int), Cond.methodLink RX5 187 yX5_canBeRun, Cond.instanceMethod yX5_canBeRun, Cond.selects RX5 yX5_canBeRun yX5_canBeRun]
def wsL_law0_r19 : List Cond := [Cond.code yX5_canBeRun cX5_canBeRun 3 (some .boolean), Cond.methodLink RX5 193 yX5_slitCoil, Cond.instanceMethod yX5_slitCoil, Cond.selects RX5 yX5_slitCoil yX5_slitCoil, Cond.code yX5_slitCoil cX5_slitCoil 3 (some .int), Cond.methodLink RX5 196 yX5_movesBetween, Cond.instanceMethod yX5_movesBetween, Cond.selects RX5 yX5_movesBetween yX5_movesBetween, Cond.code yX5_movesBetween cX5_movesBetween 3 (some .int), Cond.instanceMethod yX3_knivesNotIn, Cond.selects RX3 yX3_knivesNotIn yX3_knivesNotIn, Cond.code yX3_knivesNotIn cX3_knivesNotIn 5 (some .int), Cond.methodLink RX3 30 yX3_hasKnifeAt, Cond.instanceMethod yX3_hasKnifeAt, Cond.selects RX3 yX3_hasKnifeAt yX3_hasKnifeAt, Cond.code yX3_hasKnifeAt cX3_hasKnifeAt 4 (some .boolean), Cond.instanceMethod yX0_slitBy, Cond.selects RX0 yX0_slitBy yX0_slitBy, Cond.code yX0_slitBy cX0_slitBy 6 none, Cond.methodLink RX0 65 Lib.Math.min.name, Cond.methodLink RX0 68 yX0_cutOutLength, Cond.methodLink RX0 72 yX0_share, Cond.static yX0_share, Cond.code yX0_share cX0_share 3 (some .int)]
def wsL_law0_r20 : List Cond := [Cond.methodLink RX5 299 yX5_deliverSlits, Cond.instanceMethod yX5_deliverSlits, Cond.selects RX5 yX5_deliverSlits yX5_deliverSlits, Cond.code yX5_deliverSlits cX5_deliverSlits 5 (some .int), Cond.methodLink RX5 305 yX5_takerOf, Cond.instanceMethod yX5_takerOf, Cond.selects RX5 yX5_takerOf yX5_takerOf, Cond.code yX5_takerOf cX5_takerOf 4 (some .int), Cond.instanceMethod yX2_receive, Cond.selects RX2 yX2_receive yX2_receive, Cond.code yX2_receive cX2_receive 3 none, Cond.methodLink RL 135 yX6_run, Cond.instanceMethod yX6_run, Cond.selects RX6 yX6_run yX6_run, Cond.code yX6_run cX6_run 4 (some .int), Cond.methodLink RX6 154 yX6_runs, Cond.instanceMethod yX6_runs, Cond.selects RX6 yX6_runs yX6_runs, Cond.code yX6_runs cX6_runs 14 (some .int), Cond.fieldLink RX6 147 "SlittingOfficeModel" "moved" "I", Cond.methodLink RX6 150 yX6_movesFrom, Cond.instanceMethod yX6_movesFrom, Cond.selects RX6 yX6_movesFrom yX6_movesFrom, Cond.code yX6_movesFrom cX6_movesFrom 6 (some .int)]
def wsL_law0_r21 : List Cond := [Cond.methodLink RX6 144 yX6_isPosition, Cond.instanceMethod yX6_isPosition, Cond.selects RX6 yX6_isPosition yX6_isPosition, Cond.code yX6_isPosition cX6_isPosition 6 (some .boolean), Cond.methodLink RL 136 yL_moves, Cond.static yL_moves, Cond.codeWith yL_moves cL_moves 4 (some .int) [(0, 9, 12, 21)], Cond.methodLink RL 54 yX5_moves, Cond.instanceMethod yX5_moves, Cond.selects RX5 yX5_moves yX5_moves, Cond.code yX5_moves cX5_moves 2 (some .int), Cond.methodLink RL 138 yX6_moves, Cond.instanceMethod yX6_moves, Cond.selects RX6 yX6_moves yX6_moves, Cond.code yX6_moves cX6_moves 2 (some .int), Cond.methodLink RL 139 yX5_moved, Cond.instanceMethod yX5_moved, Cond.selects RX5 yX5_moved yX5_moved, Cond.code yX5_moved cX5_moved 1 (some .int), Cond.methodLink RL 142 yX6_moved, Cond.instanceMethod yX6_moved, Cond.selects RX6 yX6_moved yX6_moved, Cond.code yX6_moved cX6_moved 1 (some .int), Cond.methodLink RL 143 yL_plan]
def wsL_law0_r22 : List Cond := [Cond.static yL_plan, Cond.codeWith yL_plan cL_plan 5 (some .int) [(0, 10, 13, 21), (0, 10, 17, 15)], Cond.methodLink RL 57 yX5_plan, Cond.instanceMethod yX5_plan, Cond.selects RX5 yX5_plan yX5_plan, Cond.code yX5_plan cX5_plan 3 (some .int), Cond.methodLink RX5 199 yX5_coilWaits, Cond.instanceMethod yX5_coilWaits, Cond.selects RX5 yX5_coilWaits yX5_coilWaits, Cond.code yX5_coilWaits cX5_coilWaits 3 (some .boolean), Cond.methodLink RL 145 yX6_plan, Cond.instanceMethod yX6_plan, Cond.selects RX6 yX6_plan yX6_plan, Cond.code yX6_plan cX6_plan 6 (some .int), Cond.fieldLink RX6 157 "SlittingOfficeModel" "waiting" "I", Cond.methodLink RL 146 yX5_waiting, Cond.instanceMethod yX5_waiting, Cond.selects RX5 yX5_waiting yX5_waiting, Cond.code yX5_waiting cX5_waiting 1 (some .int), Cond.methodLink RL 149 yX6_waiting, Cond.instanceMethod yX6_waiting, Cond.selects RX6 yX6_waiting yX6_waiting, Cond.code yX6_waiting cX6_waiting 1 (some .int), Cond.methodLink RL 150 yX5_fewestMoves]
def wsL_law0_r23 : List Cond := [Cond.instanceMethod yX5_fewestMoves, Cond.selects RX5 yX5_fewestMoves yX5_fewestMoves, Cond.code yX5_fewestMoves cX5_fewestMoves 1 (some .int), Cond.methodLink RX5 204 yX5_readMoves, Cond.instanceMethod yX5_readMoves, Cond.selects RX5 yX5_readMoves yX5_readMoves, Cond.code yX5_readMoves cX5_readMoves 3 none, Cond.instanceMethod yX4_fewestBySets, Cond.selects RX4 yX4_fewestBySets yX4_fewestBySets, Cond.code yX4_fewestBySets cX4_fewestBySets 5 (some .int), Cond.methodLink RX4 23 yX4_fewestAfter, Cond.instanceMethod yX4_fewestAfter, Cond.selects RX4 yX4_fewestAfter yX4_fewestAfter, Cond.code yX4_fewestAfter cX4_fewestAfter 6 (some .int), Cond.methodLink RX4 34 Lib.Math.min.name, Cond.methodLink RX4 27 yX4_holds, Cond.static yX4_holds, Cond.code yX4_holds cX4_holds 2 (some .boolean), Cond.methodLink RX4 31 yX4_movesThrough, Cond.instanceMethod yX4_movesThrough, Cond.selects RX4 yX4_movesThrough yX4_movesThrough, Cond.code yX4_movesThrough cX4_movesThrough 4 (some .int), Cond.methodLink RX4 40 yX4_without, Cond.static yX4_without]
def wsL_law0_r24 : List Cond := [Cond.code yX4_without cX4_without 2 (some .int), Cond.methodLink RL 153 yX6_fewestMoves, Cond.instanceMethod yX6_fewestMoves, Cond.selects RX6 yX6_fewestMoves yX6_fewestMoves, Cond.code yX6_fewestMoves cX6_fewestMoves 1 (some .int), Cond.methodLink RX6 163 yX6_best, Cond.instanceMethod yX6_best, Cond.selects RX6 yX6_best yX6_best, Cond.code yX6_best cX6_best 8 (some .int), Cond.methodLink RX6 160 yX6_between, Cond.instanceMethod yX6_between, Cond.selects RX6 yX6_between yX6_between, Cond.code yX6_between cX6_between 3 (some .int), Cond.methodLink RL 154 yX5_fewestByTrying, Cond.instanceMethod yX5_fewestByTrying, Cond.selects RX5 yX5_fewestByTrying yX5_fewestByTrying, Cond.code yX5_fewestByTrying cX5_fewestByTrying 1 (some .int), Cond.instanceMethod yX4_fewestByOrders, Cond.selects RX4 yX4_fewestByOrders yX4_fewestByOrders, Cond.code yX4_fewestByOrders cX4_fewestByOrders 2 (some .int), Cond.methodLink RX4 50 yX4_tryOrders, Cond.static yX4_tryOrders, Cond.code yX4_tryOrders cX4_tryOrders 8 (some .int), Cond.methodLink RL 157 yX6_fewestByTrying]
def wsL_law0_r25 : List Cond := [Cond.instanceMethod yX6_fewestByTrying, Cond.selects RX6 yX6_fewestByTrying yX6_fewestByTrying, Cond.code yX6_fewestByTrying cX6_fewestByTrying 1 (some .int), Cond.methodLink RL 158 yL_nextAt, Cond.static yL_nextAt, Cond.codeWith yL_nextAt cL_nextAt 4 (some .int) [(0, 9, 12, 21)], Cond.methodLink RL 60 yX5_nextAt, Cond.instanceMethod yX5_nextAt, Cond.selects RX5 yX5_nextAt yX5_nextAt, Cond.code yX5_nextAt cX5_nextAt 2 (some .int), Cond.instanceMethod yX4_findBest, Cond.selects RX4 yX4_findBest yX4_findBest, Cond.code yX4_findBest cX4_findBest 6 none, Cond.methodLink RX4 43 yX4_fewestBySets, Cond.methodLink RX4 47 yX4_leastNext, Cond.instanceMethod yX4_leastNext, Cond.selects RX4 yX4_leastNext yX4_leastNext, Cond.code yX4_leastNext cX4_leastNext 5 (some .int), Cond.methodLink RL 160 yX6_nextAt, Cond.instanceMethod yX6_nextAt, Cond.selects RX6 yX6_nextAt yX6_nextAt, Cond.code yX6_nextAt cX6_nextAt 2 (some .int), Cond.methodLink RL 161 yX5_runAll, Cond.instanceMethod yX5_runAll]
def wsL_law0_r26 : List Cond := [Cond.selects RX5 yX5_runAll yX5_runAll, Cond.code yX5_runAll cX5_runAll 4 (some .int), Cond.methodLink RL 164 yX6_runAll, Cond.instanceMethod yX6_runAll, Cond.selects RX6 yX6_runAll yX6_runAll, Cond.code yX6_runAll cX6_runAll 5 (some .int), Cond.methodLink RL 165 yL_slits, Cond.static yL_slits, Cond.codeWith yL_slits cL_slits 4 (some .int) [(0, 9, 12, 21)], Cond.methodLink RL 63 yX5_slits, Cond.instanceMethod yX5_slits, Cond.selects RX5 yX5_slits yX5_slits, Cond.code yX5_slits cX5_slits 2 (some .int), Cond.methodLink RL 167 yX6_slits, Cond.instanceMethod yX6_slits, Cond.selects RX6 yX6_slits yX6_slits, Cond.code yX6_slits cX6_slits 2 (some .int), Cond.methodLink RL 168 yL_slitWeight, Cond.static yL_slitWeight, Cond.codeWith yL_slitWeight cL_slitWeight 5 (some .int) [(0, 10, 13, 21)], Cond.methodLink RL 66 yX5_slitWeight, Cond.instanceMethod yX5_slitWeight, Cond.selects RX5 yX5_slitWeight yX5_slitWeight, Cond.code yX5_slitWeight cX5_slitWeight 3 (some .int)]
def wsL_law0_r27 : List Cond := [Cond.methodLink RX5 225 yX5_requireSlit, Cond.instanceMethod yX5_requireSlit, Cond.selects RX5 yX5_requireSlit yX5_requireSlit, Cond.code yX5_requireSlit cX5_requireSlit 3 none, Cond.instanceMethod yX0_hasSlitAt, Cond.selects RX0 yX0_hasSlitAt yX0_hasSlitAt, Cond.code yX0_hasSlitAt cX0_hasSlitAt 2 (some .boolean), Cond.methodLink RL 170 yX6_slitWeight, Cond.instanceMethod yX6_slitWeight, Cond.selects RX6 yX6_slitWeight yX6_slitWeight, Cond.code yX6_slitWeight cX6_slitWeight 3 (some .int), Cond.methodLink RX6 167 yX6_isSlit, Cond.instanceMethod yX6_isSlit, Cond.selects RX6 yX6_isSlit yX6_isSlit, Cond.code yX6_isSlit cX6_isSlit 4 (some .boolean), Cond.methodLink RL 171 yL_slitOrder, Cond.static yL_slitOrder, Cond.codeWith yL_slitOrder cL_slitOrder 5 (some .int) [(0, 10, 13, 21)], Cond.methodLink RL 69 yX5_slitOrder, Cond.instanceMethod yX5_slitOrder, Cond.selects RX5 yX5_slitOrder yX5_slitOrder, Cond.code yX5_slitOrder cX5_slitOrder 3 (some .int), Cond.methodLink RL 173 yX6_slitOrder, Cond.instanceMethod yX6_slitOrder]
def wsL_law0_r28 : List Cond := [Cond.selects RX6 yX6_slitOrder yX6_slitOrder, Cond.code yX6_slitOrder cX6_slitOrder 3 (some .int), Cond.methodLink RL 174 yL_lost, Cond.static yL_lost, Cond.codeWith yL_lost cL_lost 5 (some .int) [(0, 10, 13, 21), (0, 10, 17, 13)], Cond.methodLink RL 72 yX5_lost, Cond.instanceMethod yX5_lost, Cond.selects RX5 yX5_lost yX5_lost, Cond.code yX5_lost cX5_lost 3 (some .int), Cond.methodLink RL 176 yX6_lost, Cond.instanceMethod yX6_lost, Cond.selects RX6 yX6_lost yX6_lost, Cond.code yX6_lost cX6_lost 3 (some .int), Cond.methodLink RL 177 yL_delivered, Cond.static yL_delivered, Cond.codeWith yL_delivered cL_delivered 4 (some .int) [(0, 9, 12, 21)], Cond.methodLink RL 75 yX5_delivered, Cond.instanceMethod yX5_delivered, Cond.selects RX5 yX5_delivered yX5_delivered, Cond.code yX5_delivered cX5_delivered 2 (some .int), Cond.methodLink RX5 243 yX5_requireOrder, Cond.instanceMethod yX5_requireOrder, Cond.selects RX5 yX5_requireOrder yX5_requireOrder, Cond.code yX5_requireOrder cX5_requireOrder 2 none]
def wsL_law0_r29 : List Cond := [Cond.methodLink RL 179 yX6_delivered, Cond.instanceMethod yX6_delivered, Cond.selects RX6 yX6_delivered yX6_delivered, Cond.code yX6_delivered cX6_delivered 2 (some .int), Cond.methodLink RX6 170 yX6_isOrder, Cond.instanceMethod yX6_isOrder, Cond.selects RX6 yX6_isOrder yX6_isOrder, Cond.code yX6_isOrder cX6_isOrder 2 (some .boolean), Cond.methodLink RL 180 yL_heatOf, Cond.static yL_heatOf, Cond.codeWith yL_heatOf cL_heatOf 4 (some .int) [(0, 9, 12, 21)], Cond.methodLink RL 78 yX5_heatOf, Cond.instanceMethod yX5_heatOf, Cond.selects RX5 yX5_heatOf yX5_heatOf, Cond.code yX5_heatOf cX5_heatOf 2 (some .int), Cond.methodLink RL 182 yX6_heatOf, Cond.instanceMethod yX6_heatOf, Cond.selects RX6 yX6_heatOf yX6_heatOf, Cond.code yX6_heatOf cX6_heatOf 2 (some .int), Cond.methodLink RL 183 yX5_stock, Cond.instanceMethod yX5_stock, Cond.selects RX5 yX5_stock yX5_stock, Cond.code yX5_stock cX5_stock 4 (some .int), Cond.instanceMethod yX0_stockOf]
def wsL_law0_r30 : List Cond := [Cond.selects RX0 yX0_stockOf yX0_stockOf, Cond.code yX0_stockOf cX0_stockOf 4 (some .int), Cond.methodLink RL 186 yX6_stock, Cond.instanceMethod yX6_stock, Cond.selects RX6 yX6_stock yX6_stock, Cond.code yX6_stock cX6_stock 6 (some .int)]
def wsL_law0 : List Cond := (wsL_law0_r1 ++ (wsL_law0_r2 ++ (wsL_law0_r3 ++ (wsL_law0_r4 ++ (wsL_law0_r5 ++ (wsL_law0_r6 ++ (wsL_law0_r7 ++ (wsL_law0_r8 ++ (wsL_law0_r9 ++ (wsL_law0_r10 ++ (wsL_law0_r11 ++ (wsL_law0_r12 ++ (wsL_law0_r13 ++ (wsL_law0_r14 ++ (wsL_law0_r15 ++ (wsL_law0_r16 ++ (wsL_law0_r17 ++ (wsL_law0_r18 ++ (wsL_law0_r19 ++ (wsL_law0_r20 ++ (wsL_law0_r21 ++ (wsL_law0_r22 ++ (wsL_law0_r23 ++ (wsL_law0_r24 ++ (wsL_law0_r25 ++ (wsL_law0_r26 ++ (wsL_law0_r27 ++ (wsL_law0_r28 ++ (wsL_law0_r29 ++ wsL_law0_r30))))))))))))))))))))))))))))) ++ wsX50 ++ wsX60 ++ wsX30 ++ wsX10 ++ wsX40 ++ wsX00 ++ wsX20 ++ ([] : List Cond)
def wsL_law : List Cond := wsL_law0 ++ (vx_atS RX5 91 "java/lang/IllegalStateException" ["java/lang/RuntimeException", "java/lang/Exception"]).filter goodWord ++ (vx_atS RX5 259 "java/lang/IllegalArgumentException" ["java/lang/RuntimeException", "java/lang/Exception"]).filter goodWord ++ (vx_atS RX5 149 "java/lang/IndexOutOfBoundsException" ["java/lang/RuntimeException", "java/lang/Exception"]).filter goodWord
set_option maxRecDepth 20000 in
theorem wsL_law_in0 : ∀ w ∈ wsL_law0, w ∈ lw_tbl := fun w h => (goodIn_p wsL_law0 [87, 90, 100, 118, 134, 153, 211, 804, 449, 452, 540, 910, 913, 917, 906, 548, 552, 381, 385, 572, 577, 410, 413, 921, 925, 929, 933, 586, 937, 941, 593, 599, 945, 606, 610, 615, 950, 954, 284, 288, 958, 962, 292, 966, 623, 627, 970, 635, 640, 974, 649, 653, 316, 389, 393, 397, 320, 978, 982, 986, 661, 665, 669, 428, 673, 677, 681, 349, 686, 691, 990, 994, 998, 699, 704, 707, 1002, 715, 377, 401, 312, 324, 328, 405, 416, 420, 424, 432, 1006, 1010, 1014, 1018, 723, 1022, 296, 1026, 730, 734, 1030, 300, 1034, 304, 308, 332, 336, 339, 343, 346, 1038, 1042, 1046, 353, 357, 360, 1050, 742, 368, 373, 1054, 364, 1058, 750, 1062, 757, 761, 765, 1066, 1070, 773, 1074, 780, 1078, 787, 791, 1082, 1086, 799, 1090, 436, 440, 1094] (by decide +kernel) (by decide +kernel) w h).1
theorem wsL_law_x0 : ∀ w ∈ (vx_atS RX5 91 "java/lang/IllegalStateException" ["java/lang/RuntimeException", "java/lang/Exception"]).filter goodWord, w ∈ lw_tbl := by decide +kernel
theorem wsL_law_x1 : ∀ w ∈ (vx_atS RX5 259 "java/lang/IllegalArgumentException" ["java/lang/RuntimeException", "java/lang/Exception"]).filter goodWord, w ∈ lw_tbl := by decide +kernel
theorem wsL_law_x2 : ∀ w ∈ (vx_atS RX5 149 "java/lang/IndexOutOfBoundsException" ["java/lang/RuntimeException", "java/lang/Exception"]).filter goodWord, w ∈ lw_tbl := by decide +kernel
theorem wsL_law_in : ∀ w ∈ wsL_law, w ∈ lw_tbl := fun w h => (List.mem_append.mp h).elim (fun h => (List.mem_append.mp h).elim (fun h => (List.mem_append.mp h).elim (fun h => wsL_law_in0 w h) (fun h => wsL_law_x0 w h)) (fun h => wsL_law_x1 w h)) (fun h => wsL_law_x2 w h)
theorem inlX0 : ∀ w ∈ wsX00, w ∈ wsL_law := fun _ h => List.mem_append_left _ (List.mem_append_left _ (List.mem_append_left _ (List.mem_append_left _ (List.mem_append_left _ (List.mem_append_right _ h)))))
theorem inX0 : ∀ w ∈ wsX00, w ∈ lw_tbl := fun w h => wsL_law_in w (inlX0 w h)
theorem inlX1 : ∀ w ∈ wsX10, w ∈ wsL_law := fun _ h => List.mem_append_left _ (List.mem_append_left _ (List.mem_append_left _ (List.mem_append_left _ (List.mem_append_left _ (List.mem_append_left _ (List.mem_append_left _ (List.mem_append_right _ h)))))))
theorem inX1 : ∀ w ∈ wsX10, w ∈ lw_tbl := fun w h => wsL_law_in w (inlX1 w h)
theorem inlX2 : ∀ w ∈ wsX20, w ∈ wsL_law := fun _ h => List.mem_append_left _ (List.mem_append_left _ (List.mem_append_left _ (List.mem_append_left _ (List.mem_append_right _ h))))
theorem inX2 : ∀ w ∈ wsX20, w ∈ lw_tbl := fun w h => wsL_law_in w (inlX2 w h)
theorem inlX3 : ∀ w ∈ wsX30, w ∈ wsL_law := fun _ h => List.mem_append_left _ (List.mem_append_left _ (List.mem_append_left _ (List.mem_append_left _ (List.mem_append_left _ (List.mem_append_left _ (List.mem_append_left _ (List.mem_append_left _ (List.mem_append_right _ h))))))))
theorem inX3 : ∀ w ∈ wsX30, w ∈ lw_tbl := fun w h => wsL_law_in w (inlX3 w h)
theorem inlX4 : ∀ w ∈ wsX40, w ∈ wsL_law := fun _ h => List.mem_append_left _ (List.mem_append_left _ (List.mem_append_left _ (List.mem_append_left _ (List.mem_append_left _ (List.mem_append_left _ (List.mem_append_right _ h))))))
theorem inX4 : ∀ w ∈ wsX40, w ∈ lw_tbl := fun w h => wsL_law_in w (inlX4 w h)
theorem inlX5 : ∀ w ∈ wsX50, w ∈ wsL_law := fun _ h => List.mem_append_left _ (List.mem_append_left _ (List.mem_append_left _ (List.mem_append_left _ (List.mem_append_left _ (List.mem_append_left _ (List.mem_append_left _ (List.mem_append_left _ (List.mem_append_left _ (List.mem_append_left _ (List.mem_append_right _ h))))))))))
theorem inX5 : ∀ w ∈ wsX50, w ∈ lw_tbl := fun w h => wsL_law_in w (inlX5 w h)
theorem inlX6 : ∀ w ∈ wsX60, w ∈ wsL_law := fun _ h => List.mem_append_left _ (List.mem_append_left _ (List.mem_append_left _ (List.mem_append_left _ (List.mem_append_left _ (List.mem_append_left _ (List.mem_append_left _ (List.mem_append_left _ (List.mem_append_left _ (List.mem_append_right _ h)))))))))
theorem inX6 : ∀ w ∈ wsX60, w ∈ lw_tbl := fun w h => wsL_law_in w (inlX6 w h)
theorem inJ9 : ∀ w ∈ wsJ90, w ∈ lw_tbl := by decide +kernel
theorem inJ0 : ∀ w ∈ wsJ00, w ∈ lw_tbl := by decide +kernel
theorem dX0_init_0 : decode cX0_init 0 = .ok (.aload_n 0, 1) := by decide +kernel
theorem dX0_init_1 : decode cX0_init 1 = .ok (.invokespecial 3, 3) := by decide +kernel
theorem dX0_init_4 : decode cX0_init 4 = .ok (.aload_n 0, 1) := by decide +kernel
theorem dX0_init_5 : decode cX0_init 5 = .ok (.iconst 0, 1) := by decide +kernel
theorem dX0_init_6 : decode cX0_init 6 = .ok (.putfield 9, 3) := by decide +kernel
theorem dX0_init_9 : decode cX0_init 9 = .ok (.aload_n 0, 1) := by decide +kernel
theorem dX0_init_10 : decode cX0_init 10 = .ok (.iconst 0, 1) := by decide +kernel
theorem dX0_init_11 : decode cX0_init 11 = .ok (.putfield 15, 3) := by decide +kernel
theorem dX0_init_14 : decode cX0_init 14 = .ok (.aload_n 0, 1) := by decide +kernel
theorem dX0_init_15 : decode cX0_init 15 = .ok (.iconst 0, 1) := by decide +kernel
theorem dX0_init_16 : decode cX0_init 16 = .ok (.putfield 18, 3) := by decide +kernel
theorem dX0_init_19 : decode cX0_init 19 = .ok (.aload_n 0, 1) := by decide +kernel
theorem dX0_init_20 : decode cX0_init 20 = .ok (.iconst 0, 1) := by decide +kernel
theorem dX0_init_21 : decode cX0_init 21 = .ok (.putfield 21, 3) := by decide +kernel
theorem dX0_init_24 : decode cX0_init 24 = .ok (.aload_n 0, 1) := by decide +kernel
theorem dX0_init_25 : decode cX0_init 25 = .ok (.bipush 8, 2) := by decide +kernel
theorem dX0_init_27 : decode cX0_init 27 = .ok (.newarray .int, 2) := by decide +kernel
theorem dX0_init_29 : decode cX0_init 29 = .ok (.putfield 24, 3) := by decide +kernel
theorem dX0_init_32 : decode cX0_init 32 = .ok (.aload_n 0, 1) := by decide +kernel
theorem dX0_init_33 : decode cX0_init 33 = .ok (.bipush 8, 2) := by decide +kernel
theorem dX0_init_35 : decode cX0_init 35 = .ok (.newarray .int, 2) := by decide +kernel
theorem dX0_init_37 : decode cX0_init 37 = .ok (.putfield 28, 3) := by decide +kernel
theorem dX0_init_40 : decode cX0_init 40 = .ok (.aload_n 0, 1) := by decide +kernel
theorem dX0_init_41 : decode cX0_init 41 = .ok (.iconst 0, 1) := by decide +kernel
theorem dX0_init_42 : decode cX0_init 42 = .ok (.putfield 31, 3) := by decide +kernel
theorem dX0_init_45 : decode cX0_init 45 = .ok (.aload_n 0, 1) := by decide +kernel
theorem dX0_init_46 : decode cX0_init 46 = .ok (.bipush 15, 2) := by decide +kernel
theorem dX0_init_48 : decode cX0_init 48 = .ok (.newarray .int, 2) := by decide +kernel
theorem dX0_init_50 : decode cX0_init 50 = .ok (.putfield 34, 3) := by decide +kernel
theorem dX0_init_53 : decode cX0_init 53 = .ok (.aload_n 0, 1) := by decide +kernel
theorem dX0_init_54 : decode cX0_init 54 = .ok (.bipush 15, 2) := by decide +kernel
theorem dX0_init_56 : decode cX0_init 56 = .ok (.newarray .int, 2) := by decide +kernel
theorem dX0_init_58 : decode cX0_init 58 = .ok (.putfield 37, 3) := by decide +kernel
theorem dX0_init_61 : decode cX0_init 61 = .ok (.aload_n 0, 1) := by decide +kernel
theorem dX0_init_62 : decode cX0_init 62 = .ok (.bipush 15, 2) := by decide +kernel
theorem dX0_init_64 : decode cX0_init 64 = .ok (.newarray .int, 2) := by decide +kernel
theorem dX0_init_66 : decode cX0_init 66 = .ok (.putfield 40, 3) := by decide +kernel
theorem dX0_init_69 : decode cX0_init 69 = .ok (.aload_n 0, 1) := by decide +kernel
theorem dX0_init_70 : decode cX0_init 70 = .ok (.iconst (-1), 1) := by decide +kernel
theorem dX0_init_71 : decode cX0_init 71 = .ok (.putfield 43, 3) := by decide +kernel
theorem dX0_init_74 : decode cX0_init 74 = .ok (.aload_n 0, 1) := by decide +kernel
theorem dX0_init_75 : decode cX0_init 75 = .ok (.iconst 0, 1) := by decide +kernel
theorem dX0_init_76 : decode cX0_init 76 = .ok (.putfield 46, 3) := by decide +kernel
theorem dX0_init_79 : decode cX0_init 79 = .ok (.aload_n 0, 1) := by decide +kernel
theorem dX0_init_80 : decode cX0_init 80 = .ok (.iconst 0, 1) := by decide +kernel
theorem dX0_init_81 : decode cX0_init 81 = .ok (.putfield 49, 3) := by decide +kernel
theorem dX0_init_84 : decode cX0_init 84 = .ok (.aload_n 0, 1) := by decide +kernel
theorem dX0_init_85 : decode cX0_init 85 = .ok (.iconst 0, 1) := by decide +kernel
theorem dX0_init_86 : decode cX0_init 86 = .ok (.putfield 52, 3) := by decide +kernel
theorem dX0_init_89 : decode cX0_init 89 = .ok (.return_, 1) := by decide +kernel
theorem dX0_describe_0 : decode cX0_describe 0 = .ok (.aload_n 0, 1) := by decide +kernel
theorem dX0_describe_1 : decode cX0_describe 1 = .ok (.iload_n 1, 1) := by decide +kernel
theorem dX0_describe_2 : decode cX0_describe 2 = .ok (.putfield 9, 3) := by decide +kernel
theorem dX0_describe_5 : decode cX0_describe 5 = .ok (.aload_n 0, 1) := by decide +kernel
theorem dX0_describe_6 : decode cX0_describe 6 = .ok (.iload_n 2, 1) := by decide +kernel
theorem dX0_describe_7 : decode cX0_describe 7 = .ok (.putfield 15, 3) := by decide +kernel
theorem dX0_describe_10 : decode cX0_describe 10 = .ok (.aload_n 0, 1) := by decide +kernel
theorem dX0_describe_11 : decode cX0_describe 11 = .ok (.iload_n 3, 1) := by decide +kernel
theorem dX0_describe_12 : decode cX0_describe 12 = .ok (.putfield 18, 3) := by decide +kernel
theorem dX0_describe_15 : decode cX0_describe 15 = .ok (.aload_n 0, 1) := by decide +kernel
theorem dX0_describe_16 : decode cX0_describe 16 = .ok (.iload 4, 2) := by decide +kernel
theorem dX0_describe_18 : decode cX0_describe 18 = .ok (.putfield 21, 3) := by decide +kernel
theorem dX0_describe_21 : decode cX0_describe 21 = .ok (.return_, 1) := by decide +kernel
theorem dX0_isSlit_0 : decode cX0_isSlit 0 = .ok (.aload_n 0, 1) := by decide +kernel
theorem dX0_isSlit_1 : decode cX0_isSlit 1 = .ok (.getfield 43, 3) := by decide +kernel
theorem dX0_isSlit_4 : decode cX0_isSlit 4 = .ok (.iconst (-1), 1) := by decide +kernel
theorem dX0_isSlit_5 : decode cX0_isSlit 5 = .ok (.if_icmp .eq 7, 3) := by decide +kernel
theorem dX0_isSlit_8 : decode cX0_isSlit 8 = .ok (.iconst 1, 1) := by decide +kernel
theorem dX0_isSlit_9 : decode cX0_isSlit 9 = .ok (.goto 4, 3) := by decide +kernel
theorem dX0_isSlit_12 : decode cX0_isSlit 12 = .ok (.iconst 0, 1) := by decide +kernel
theorem dX0_isSlit_13 : decode cX0_isSlit 13 = .ok (.ireturn, 1) := by decide +kernel
theorem dX0_hasSlitAt_0 : decode cX0_hasSlitAt 0 = .ok (.iload_n 1, 1) := by decide +kernel
theorem dX0_hasSlitAt_1 : decode cX0_hasSlitAt 1 = .ok (.ifCond .lt 15, 3) := by decide +kernel
theorem dX0_hasSlitAt_4 : decode cX0_hasSlitAt 4 = .ok (.iload_n 1, 1) := by decide +kernel
theorem dX0_hasSlitAt_5 : decode cX0_hasSlitAt 5 = .ok (.aload_n 0, 1) := by decide +kernel
theorem dX0_hasSlitAt_6 : decode cX0_hasSlitAt 6 = .ok (.getfield 43, 3) := by decide +kernel
theorem dX0_hasSlitAt_9 : decode cX0_hasSlitAt 9 = .ok (.if_icmp .ge 7, 3) := by decide +kernel
theorem dX0_hasSlitAt_12 : decode cX0_hasSlitAt 12 = .ok (.iconst 1, 1) := by decide +kernel
theorem dX0_hasSlitAt_13 : decode cX0_hasSlitAt 13 = .ok (.goto 4, 3) := by decide +kernel
theorem dX0_hasSlitAt_16 : decode cX0_hasSlitAt 16 = .ok (.iconst 0, 1) := by decide +kernel
theorem dX0_hasSlitAt_17 : decode cX0_hasSlitAt 17 = .ok (.ireturn, 1) := by decide +kernel
theorem dX0_hasMostDefects_0 : decode cX0_hasMostDefects 0 = .ok (.aload_n 0, 1) := by decide +kernel
theorem dX0_hasMostDefects_1 : decode cX0_hasMostDefects 1 = .ok (.getfield 31, 3) := by decide +kernel
theorem dX0_hasMostDefects_4 : decode cX0_hasMostDefects 4 = .ok (.bipush 8, 2) := by decide +kernel
theorem dX0_hasMostDefects_6 : decode cX0_hasMostDefects 6 = .ok (.if_icmp .lt 7, 3) := by decide +kernel
theorem dX0_hasMostDefects_9 : decode cX0_hasMostDefects 9 = .ok (.iconst 1, 1) := by decide +kernel
theorem dX0_hasMostDefects_10 : decode cX0_hasMostDefects 10 = .ok (.goto 4, 3) := by decide +kernel
theorem dX0_hasMostDefects_13 : decode cX0_hasMostDefects 13 = .ok (.iconst 0, 1) := by decide +kernel
theorem dX0_hasMostDefects_14 : decode cX0_hasMostDefects 14 = .ok (.ireturn, 1) := by decide +kernel
theorem dX0_addDefect_0 : decode cX0_addDefect 0 = .ok (.aload_n 0, 1) := by decide +kernel
theorem dX0_addDefect_1 : decode cX0_addDefect 1 = .ok (.invokevirtual 55, 3) := by decide +kernel
theorem dX0_addDefect_4 : decode cX0_addDefect 4 = .ok (.ifCond .eq 4, 3) := by decide +kernel
theorem dX0_addDefect_7 : decode cX0_addDefect 7 = .ok (.return_, 1) := by decide +kernel
theorem dX0_addDefect_8 : decode cX0_addDefect 8 = .ok (.aload_n 0, 1) := by decide +kernel
theorem dX0_addDefect_9 : decode cX0_addDefect 9 = .ok (.getfield 31, 3) := by decide +kernel
theorem dX0_addDefect_12 : decode cX0_addDefect 12 = .ok (.istore_n 3, 1) := by decide +kernel
theorem dX0_addDefect_13 : decode cX0_addDefect 13 = .ok (.iload_n 3, 1) := by decide +kernel
theorem dX0_addDefect_14 : decode cX0_addDefect 14 = .ok (.ifCond .le 49, 3) := by decide +kernel
theorem dX0_addDefect_17 : decode cX0_addDefect 17 = .ok (.aload_n 0, 1) := by decide +kernel
theorem dX0_addDefect_18 : decode cX0_addDefect 18 = .ok (.getfield 24, 3) := by decide +kernel
theorem dX0_addDefect_21 : decode cX0_addDefect 21 = .ok (.iload_n 3, 1) := by decide +kernel
theorem dX0_addDefect_22 : decode cX0_addDefect 22 = .ok (.iconst 1, 1) := by decide +kernel
theorem dX0_addDefect_23 : decode cX0_addDefect 23 = .ok (.isub, 1) := by decide +kernel
theorem dX0_addDefect_24 : decode cX0_addDefect 24 = .ok (.iaload, 1) := by decide +kernel
theorem dX0_addDefect_25 : decode cX0_addDefect 25 = .ok (.iload_n 1, 1) := by decide +kernel
theorem dX0_addDefect_26 : decode cX0_addDefect 26 = .ok (.if_icmp .le 37, 3) := by decide +kernel
theorem dX0_addDefect_29 : decode cX0_addDefect 29 = .ok (.aload_n 0, 1) := by decide +kernel
theorem dX0_addDefect_30 : decode cX0_addDefect 30 = .ok (.getfield 24, 3) := by decide +kernel
theorem dX0_addDefect_33 : decode cX0_addDefect 33 = .ok (.iload_n 3, 1) := by decide +kernel
theorem dX0_addDefect_34 : decode cX0_addDefect 34 = .ok (.aload_n 0, 1) := by decide +kernel
theorem dX0_addDefect_35 : decode cX0_addDefect 35 = .ok (.getfield 24, 3) := by decide +kernel
theorem dX0_addDefect_38 : decode cX0_addDefect 38 = .ok (.iload_n 3, 1) := by decide +kernel
theorem dX0_addDefect_39 : decode cX0_addDefect 39 = .ok (.iconst 1, 1) := by decide +kernel
theorem dX0_addDefect_40 : decode cX0_addDefect 40 = .ok (.isub, 1) := by decide +kernel
theorem dX0_addDefect_41 : decode cX0_addDefect 41 = .ok (.iaload, 1) := by decide +kernel
theorem dX0_addDefect_42 : decode cX0_addDefect 42 = .ok (.iastore, 1) := by decide +kernel
theorem dX0_addDefect_43 : decode cX0_addDefect 43 = .ok (.aload_n 0, 1) := by decide +kernel
theorem dX0_addDefect_44 : decode cX0_addDefect 44 = .ok (.getfield 28, 3) := by decide +kernel
theorem dX0_addDefect_47 : decode cX0_addDefect 47 = .ok (.iload_n 3, 1) := by decide +kernel
theorem dX0_addDefect_48 : decode cX0_addDefect 48 = .ok (.aload_n 0, 1) := by decide +kernel
theorem dX0_addDefect_49 : decode cX0_addDefect 49 = .ok (.getfield 28, 3) := by decide +kernel
theorem dX0_addDefect_52 : decode cX0_addDefect 52 = .ok (.iload_n 3, 1) := by decide +kernel
theorem dX0_addDefect_53 : decode cX0_addDefect 53 = .ok (.iconst 1, 1) := by decide +kernel
theorem dX0_addDefect_54 : decode cX0_addDefect 54 = .ok (.isub, 1) := by decide +kernel
theorem dX0_addDefect_55 : decode cX0_addDefect 55 = .ok (.iaload, 1) := by decide +kernel
theorem dX0_addDefect_56 : decode cX0_addDefect 56 = .ok (.iastore, 1) := by decide +kernel
theorem dX0_addDefect_57 : decode cX0_addDefect 57 = .ok (.iinc 3 (-1), 3) := by decide +kernel
theorem dX0_addDefect_60 : decode cX0_addDefect 60 = .ok (.goto (-47), 3) := by decide +kernel
theorem dX0_addDefect_63 : decode cX0_addDefect 63 = .ok (.aload_n 0, 1) := by decide +kernel
theorem dX0_addDefect_64 : decode cX0_addDefect 64 = .ok (.getfield 24, 3) := by decide +kernel
theorem dX0_addDefect_67 : decode cX0_addDefect 67 = .ok (.iload_n 3, 1) := by decide +kernel
theorem dX0_addDefect_68 : decode cX0_addDefect 68 = .ok (.iload_n 1, 1) := by decide +kernel
theorem dX0_addDefect_69 : decode cX0_addDefect 69 = .ok (.iastore, 1) := by decide +kernel
theorem dX0_addDefect_70 : decode cX0_addDefect 70 = .ok (.aload_n 0, 1) := by decide +kernel
theorem dX0_addDefect_71 : decode cX0_addDefect 71 = .ok (.getfield 28, 3) := by decide +kernel
theorem dX0_addDefect_74 : decode cX0_addDefect 74 = .ok (.iload_n 3, 1) := by decide +kernel
theorem dX0_addDefect_75 : decode cX0_addDefect 75 = .ok (.iload_n 2, 1) := by decide +kernel
theorem dX0_addDefect_76 : decode cX0_addDefect 76 = .ok (.iastore, 1) := by decide +kernel
theorem dX0_addDefect_77 : decode cX0_addDefect 77 = .ok (.aload_n 0, 1) := by decide +kernel
theorem dX0_addDefect_78 : decode cX0_addDefect 78 = .ok (.dup, 1) := by decide +kernel
theorem dX0_addDefect_79 : decode cX0_addDefect 79 = .ok (.getfield 31, 3) := by decide +kernel
theorem dX0_addDefect_82 : decode cX0_addDefect 82 = .ok (.iconst 1, 1) := by decide +kernel
theorem dX0_addDefect_83 : decode cX0_addDefect 83 = .ok (.iadd, 1) := by decide +kernel
theorem dX0_addDefect_84 : decode cX0_addDefect 84 = .ok (.putfield 31, 3) := by decide +kernel
theorem dX0_addDefect_87 : decode cX0_addDefect 87 = .ok (.return_, 1) := by decide +kernel
theorem dX0_cutOutLength_0 : decode cX0_cutOutLength 0 = .ok (.iconst 0, 1) := by decide +kernel
theorem dX0_cutOutLength_1 : decode cX0_cutOutLength 1 = .ok (.istore_n 1, 1) := by decide +kernel
theorem dX0_cutOutLength_2 : decode cX0_cutOutLength 2 = .ok (.iconst 0, 1) := by decide +kernel
theorem dX0_cutOutLength_3 : decode cX0_cutOutLength 3 = .ok (.istore_n 2, 1) := by decide +kernel
theorem dX0_cutOutLength_4 : decode cX0_cutOutLength 4 = .ok (.iconst 0, 1) := by decide +kernel
theorem dX0_cutOutLength_5 : decode cX0_cutOutLength 5 = .ok (.istore_n 3, 1) := by decide +kernel
theorem dX0_cutOutLength_6 : decode cX0_cutOutLength 6 = .ok (.iload_n 3, 1) := by decide +kernel
theorem dX0_cutOutLength_7 : decode cX0_cutOutLength 7 = .ok (.aload_n 0, 1) := by decide +kernel
theorem dX0_cutOutLength_8 : decode cX0_cutOutLength 8 = .ok (.getfield 31, 3) := by decide +kernel
theorem dX0_cutOutLength_11 : decode cX0_cutOutLength 11 = .ok (.if_icmp .ge 51, 3) := by decide +kernel
theorem dX0_cutOutLength_14 : decode cX0_cutOutLength 14 = .ok (.aload_n 0, 1) := by decide +kernel
theorem dX0_cutOutLength_15 : decode cX0_cutOutLength 15 = .ok (.getfield 24, 3) := by decide +kernel
theorem dX0_cutOutLength_18 : decode cX0_cutOutLength 18 = .ok (.iload_n 3, 1) := by decide +kernel
theorem dX0_cutOutLength_19 : decode cX0_cutOutLength 19 = .ok (.iaload, 1) := by decide +kernel
theorem dX0_cutOutLength_20 : decode cX0_cutOutLength 20 = .ok (.iload_n 2, 1) := by decide +kernel
theorem dX0_cutOutLength_21 : decode cX0_cutOutLength 21 = .ok (.invokestatic 59, 3) := by decide +kernel
theorem dX0_cutOutLength_24 : decode cX0_cutOutLength 24 = .ok (.istore 4, 2) := by decide +kernel
theorem dX0_cutOutLength_26 : decode cX0_cutOutLength 26 = .ok (.aload_n 0, 1) := by decide +kernel
theorem dX0_cutOutLength_27 : decode cX0_cutOutLength 27 = .ok (.getfield 28, 3) := by decide +kernel
theorem dX0_cutOutLength_30 : decode cX0_cutOutLength 30 = .ok (.iload_n 3, 1) := by decide +kernel
theorem dX0_cutOutLength_31 : decode cX0_cutOutLength 31 = .ok (.iaload, 1) := by decide +kernel
theorem dX0_cutOutLength_32 : decode cX0_cutOutLength 32 = .ok (.iload 4, 2) := by decide +kernel
theorem dX0_cutOutLength_34 : decode cX0_cutOutLength 34 = .ok (.if_icmp .le 22, 3) := by decide +kernel
theorem dX0_cutOutLength_37 : decode cX0_cutOutLength 37 = .ok (.iload_n 1, 1) := by decide +kernel
theorem dX0_cutOutLength_38 : decode cX0_cutOutLength 38 = .ok (.aload_n 0, 1) := by decide +kernel
theorem dX0_cutOutLength_39 : decode cX0_cutOutLength 39 = .ok (.getfield 28, 3) := by decide +kernel
theorem dX0_cutOutLength_42 : decode cX0_cutOutLength 42 = .ok (.iload_n 3, 1) := by decide +kernel
theorem dX0_cutOutLength_43 : decode cX0_cutOutLength 43 = .ok (.iaload, 1) := by decide +kernel
theorem dX0_cutOutLength_44 : decode cX0_cutOutLength 44 = .ok (.iload 4, 2) := by decide +kernel
theorem dX0_cutOutLength_46 : decode cX0_cutOutLength 46 = .ok (.isub, 1) := by decide +kernel
theorem dX0_cutOutLength_47 : decode cX0_cutOutLength 47 = .ok (.iadd, 1) := by decide +kernel
theorem dX0_cutOutLength_48 : decode cX0_cutOutLength 48 = .ok (.istore_n 1, 1) := by decide +kernel
theorem dX0_cutOutLength_49 : decode cX0_cutOutLength 49 = .ok (.aload_n 0, 1) := by decide +kernel
theorem dX0_cutOutLength_50 : decode cX0_cutOutLength 50 = .ok (.getfield 28, 3) := by decide +kernel
theorem dX0_cutOutLength_53 : decode cX0_cutOutLength 53 = .ok (.iload_n 3, 1) := by decide +kernel
theorem dX0_cutOutLength_54 : decode cX0_cutOutLength 54 = .ok (.iaload, 1) := by decide +kernel
theorem dX0_cutOutLength_55 : decode cX0_cutOutLength 55 = .ok (.istore_n 2, 1) := by decide +kernel
theorem dX0_cutOutLength_56 : decode cX0_cutOutLength 56 = .ok (.iinc 3 1, 3) := by decide +kernel
theorem dX0_cutOutLength_59 : decode cX0_cutOutLength 59 = .ok (.goto (-53), 3) := by decide +kernel
theorem dX0_cutOutLength_62 : decode cX0_cutOutLength 62 = .ok (.iload_n 1, 1) := by decide +kernel
theorem dX0_cutOutLength_63 : decode cX0_cutOutLength 63 = .ok (.ireturn, 1) := by decide +kernel
theorem dX0_slitBy_0 : decode cX0_slitBy 0 = .ok (.aload_n 0, 1) := by decide +kernel
theorem dX0_slitBy_1 : decode cX0_slitBy 1 = .ok (.iload_n 2, 1) := by decide +kernel
theorem dX0_slitBy_2 : decode cX0_slitBy 2 = .ok (.aload_n 0, 1) := by decide +kernel
theorem dX0_slitBy_3 : decode cX0_slitBy 3 = .ok (.getfield 15, 3) := by decide +kernel
theorem dX0_slitBy_6 : decode cX0_slitBy 6 = .ok (.invokestatic 65, 3) := by decide +kernel
theorem dX0_slitBy_9 : decode cX0_slitBy 9 = .ok (.putfield 46, 3) := by decide +kernel
theorem dX0_slitBy_12 : decode cX0_slitBy 12 = .ok (.aload_n 0, 1) := by decide +kernel
theorem dX0_slitBy_13 : decode cX0_slitBy 13 = .ok (.getfield 15, 3) := by decide +kernel
theorem dX0_slitBy_16 : decode cX0_slitBy 16 = .ok (.aload_n 0, 1) := by decide +kernel
theorem dX0_slitBy_17 : decode cX0_slitBy 17 = .ok (.getfield 46, 3) := by decide +kernel
theorem dX0_slitBy_20 : decode cX0_slitBy 20 = .ok (.isub, 1) := by decide +kernel
theorem dX0_slitBy_21 : decode cX0_slitBy 21 = .ok (.istore_n 3, 1) := by decide +kernel
theorem dX0_slitBy_22 : decode cX0_slitBy 22 = .ok (.aload_n 0, 1) := by decide +kernel
theorem dX0_slitBy_23 : decode cX0_slitBy 23 = .ok (.iload_n 3, 1) := by decide +kernel
theorem dX0_slitBy_24 : decode cX0_slitBy 24 = .ok (.aload_n 0, 1) := by decide +kernel
theorem dX0_slitBy_25 : decode cX0_slitBy 25 = .ok (.invokevirtual 68, 3) := by decide +kernel
theorem dX0_slitBy_28 : decode cX0_slitBy 28 = .ok (.aload_n 0, 1) := by decide +kernel
theorem dX0_slitBy_29 : decode cX0_slitBy 29 = .ok (.getfield 18, 3) := by decide +kernel
theorem dX0_slitBy_32 : decode cX0_slitBy 32 = .ok (.invokestatic 72, 3) := by decide +kernel
theorem dX0_slitBy_35 : decode cX0_slitBy 35 = .ok (.putfield 49, 3) := by decide +kernel
theorem dX0_slitBy_38 : decode cX0_slitBy 38 = .ok (.iload_n 3, 1) := by decide +kernel
theorem dX0_slitBy_39 : decode cX0_slitBy 39 = .ok (.aload_n 0, 1) := by decide +kernel
theorem dX0_slitBy_40 : decode cX0_slitBy 40 = .ok (.getfield 49, 3) := by decide +kernel
theorem dX0_slitBy_43 : decode cX0_slitBy 43 = .ok (.isub, 1) := by decide +kernel
theorem dX0_slitBy_44 : decode cX0_slitBy 44 = .ok (.istore 4, 2) := by decide +kernel
theorem dX0_slitBy_46 : decode cX0_slitBy 46 = .ok (.aload_n 0, 1) := by decide +kernel
theorem dX0_slitBy_47 : decode cX0_slitBy 47 = .ok (.iload 4, 2) := by decide +kernel
theorem dX0_slitBy_49 : decode cX0_slitBy 49 = .ok (.putfield 52, 3) := by decide +kernel
theorem dX0_slitBy_52 : decode cX0_slitBy 52 = .ok (.aload_n 0, 1) := by decide +kernel
theorem dX0_slitBy_53 : decode cX0_slitBy 53 = .ok (.aload_n 1, 1) := by decide +kernel
theorem dX0_slitBy_54 : decode cX0_slitBy 54 = .ok (.getfield 76, 3) := by decide +kernel
theorem dX0_slitBy_57 : decode cX0_slitBy 57 = .ok (.putfield 43, 3) := by decide +kernel
theorem dX0_slitBy_60 : decode cX0_slitBy 60 = .ok (.iconst 0, 1) := by decide +kernel
theorem dX0_slitBy_61 : decode cX0_slitBy 61 = .ok (.istore 5, 2) := by decide +kernel
theorem dX0_slitBy_63 : decode cX0_slitBy 63 = .ok (.iload 5, 2) := by decide +kernel
theorem dX0_slitBy_65 : decode cX0_slitBy 65 = .ok (.aload_n 0, 1) := by decide +kernel
theorem dX0_slitBy_66 : decode cX0_slitBy 66 = .ok (.getfield 43, 3) := by decide +kernel
theorem dX0_slitBy_69 : decode cX0_slitBy 69 = .ok (.if_icmp .ge 62, 3) := by decide +kernel
theorem dX0_slitBy_72 : decode cX0_slitBy 72 = .ok (.aload_n 0, 1) := by decide +kernel
theorem dX0_slitBy_73 : decode cX0_slitBy 73 = .ok (.getfield 34, 3) := by decide +kernel
theorem dX0_slitBy_76 : decode cX0_slitBy 76 = .ok (.iload 5, 2) := by decide +kernel
theorem dX0_slitBy_78 : decode cX0_slitBy 78 = .ok (.aload_n 1, 1) := by decide +kernel
theorem dX0_slitBy_79 : decode cX0_slitBy 79 = .ok (.getfield 81, 3) := by decide +kernel
theorem dX0_slitBy_82 : decode cX0_slitBy 82 = .ok (.iload 5, 2) := by decide +kernel
theorem dX0_slitBy_84 : decode cX0_slitBy 84 = .ok (.iaload, 1) := by decide +kernel
theorem dX0_slitBy_85 : decode cX0_slitBy 85 = .ok (.iastore, 1) := by decide +kernel
theorem dX0_slitBy_86 : decode cX0_slitBy 86 = .ok (.aload_n 0, 1) := by decide +kernel
theorem dX0_slitBy_87 : decode cX0_slitBy 87 = .ok (.getfield 37, 3) := by decide +kernel
theorem dX0_slitBy_90 : decode cX0_slitBy 90 = .ok (.iload 5, 2) := by decide +kernel
theorem dX0_slitBy_92 : decode cX0_slitBy 92 = .ok (.iload 4, 2) := by decide +kernel
theorem dX0_slitBy_94 : decode cX0_slitBy 94 = .ok (.aload_n 0, 1) := by decide +kernel
theorem dX0_slitBy_95 : decode cX0_slitBy 95 = .ok (.getfield 34, 3) := by decide +kernel
theorem dX0_slitBy_98 : decode cX0_slitBy 98 = .ok (.iload 5, 2) := by decide +kernel
theorem dX0_slitBy_100 : decode cX0_slitBy 100 = .ok (.iaload, 1) := by decide +kernel
theorem dX0_slitBy_101 : decode cX0_slitBy 101 = .ok (.aload_n 0, 1) := by decide +kernel
theorem dX0_slitBy_102 : decode cX0_slitBy 102 = .ok (.getfield 9, 3) := by decide +kernel
theorem dX0_slitBy_105 : decode cX0_slitBy 105 = .ok (.invokestatic 72, 3) := by decide +kernel
theorem dX0_slitBy_108 : decode cX0_slitBy 108 = .ok (.iastore, 1) := by decide +kernel
theorem dX0_slitBy_109 : decode cX0_slitBy 109 = .ok (.aload_n 0, 1) := by decide +kernel
theorem dX0_slitBy_110 : decode cX0_slitBy 110 = .ok (.dup, 1) := by decide +kernel
theorem dX0_slitBy_111 : decode cX0_slitBy 111 = .ok (.getfield 52, 3) := by decide +kernel
theorem dX0_slitBy_114 : decode cX0_slitBy 114 = .ok (.aload_n 0, 1) := by decide +kernel
theorem dX0_slitBy_115 : decode cX0_slitBy 115 = .ok (.getfield 37, 3) := by decide +kernel
theorem dX0_slitBy_118 : decode cX0_slitBy 118 = .ok (.iload 5, 2) := by decide +kernel
theorem dX0_slitBy_120 : decode cX0_slitBy 120 = .ok (.iaload, 1) := by decide +kernel
theorem dX0_slitBy_121 : decode cX0_slitBy 121 = .ok (.isub, 1) := by decide +kernel
theorem dX0_slitBy_122 : decode cX0_slitBy 122 = .ok (.putfield 52, 3) := by decide +kernel
theorem dX0_slitBy_125 : decode cX0_slitBy 125 = .ok (.iinc 5 1, 3) := by decide +kernel
theorem dX0_slitBy_128 : decode cX0_slitBy 128 = .ok (.goto (-65), 3) := by decide +kernel
theorem dX0_slitBy_131 : decode cX0_slitBy 131 = .ok (.return_, 1) := by decide +kernel
theorem dX0_stockOf_0 : decode cX0_stockOf 0 = .ok (.iconst 0, 1) := by decide +kernel
theorem dX0_stockOf_1 : decode cX0_stockOf 1 = .ok (.istore_n 2, 1) := by decide +kernel
theorem dX0_stockOf_2 : decode cX0_stockOf 2 = .ok (.iconst 0, 1) := by decide +kernel
theorem dX0_stockOf_3 : decode cX0_stockOf 3 = .ok (.istore_n 3, 1) := by decide +kernel
theorem dX0_stockOf_4 : decode cX0_stockOf 4 = .ok (.iload_n 3, 1) := by decide +kernel
theorem dX0_stockOf_5 : decode cX0_stockOf 5 = .ok (.aload_n 0, 1) := by decide +kernel
theorem dX0_stockOf_6 : decode cX0_stockOf 6 = .ok (.getfield 43, 3) := by decide +kernel
theorem dX0_stockOf_9 : decode cX0_stockOf 9 = .ok (.if_icmp .ge 38, 3) := by decide +kernel
theorem dX0_stockOf_12 : decode cX0_stockOf 12 = .ok (.aload_n 0, 1) := by decide +kernel
theorem dX0_stockOf_13 : decode cX0_stockOf 13 = .ok (.getfield 34, 3) := by decide +kernel
theorem dX0_stockOf_16 : decode cX0_stockOf 16 = .ok (.iload_n 3, 1) := by decide +kernel
theorem dX0_stockOf_17 : decode cX0_stockOf 17 = .ok (.iaload, 1) := by decide +kernel
theorem dX0_stockOf_18 : decode cX0_stockOf 18 = .ok (.iload_n 1, 1) := by decide +kernel
theorem dX0_stockOf_19 : decode cX0_stockOf 19 = .ok (.if_icmp .ne 22, 3) := by decide +kernel
theorem dX0_stockOf_22 : decode cX0_stockOf 22 = .ok (.aload_n 0, 1) := by decide +kernel
theorem dX0_stockOf_23 : decode cX0_stockOf 23 = .ok (.getfield 40, 3) := by decide +kernel
theorem dX0_stockOf_26 : decode cX0_stockOf 26 = .ok (.iload_n 3, 1) := by decide +kernel
theorem dX0_stockOf_27 : decode cX0_stockOf 27 = .ok (.iaload, 1) := by decide +kernel
theorem dX0_stockOf_28 : decode cX0_stockOf 28 = .ok (.iconst (-1), 1) := by decide +kernel
theorem dX0_stockOf_29 : decode cX0_stockOf 29 = .ok (.if_icmp .ne 12, 3) := by decide +kernel
theorem dX0_stockOf_32 : decode cX0_stockOf 32 = .ok (.iload_n 2, 1) := by decide +kernel
theorem dX0_stockOf_33 : decode cX0_stockOf 33 = .ok (.aload_n 0, 1) := by decide +kernel
theorem dX0_stockOf_34 : decode cX0_stockOf 34 = .ok (.getfield 37, 3) := by decide +kernel
theorem dX0_stockOf_37 : decode cX0_stockOf 37 = .ok (.iload_n 3, 1) := by decide +kernel
theorem dX0_stockOf_38 : decode cX0_stockOf 38 = .ok (.iaload, 1) := by decide +kernel
theorem dX0_stockOf_39 : decode cX0_stockOf 39 = .ok (.iadd, 1) := by decide +kernel
theorem dX0_stockOf_40 : decode cX0_stockOf 40 = .ok (.istore_n 2, 1) := by decide +kernel
theorem dX0_stockOf_41 : decode cX0_stockOf 41 = .ok (.iinc 3 1, 3) := by decide +kernel
theorem dX0_stockOf_44 : decode cX0_stockOf 44 = .ok (.goto (-40), 3) := by decide +kernel
theorem dX0_stockOf_47 : decode cX0_stockOf 47 = .ok (.iload_n 2, 1) := by decide +kernel
theorem dX0_stockOf_48 : decode cX0_stockOf 48 = .ok (.ireturn, 1) := by decide +kernel
theorem dX0_share_0 : decode cX0_share 0 = .ok (.iload_n 2, 1) := by decide +kernel
theorem dX0_share_1 : decode cX0_share 1 = .ok (.ifCond .gt 7, 3) := by decide +kernel
theorem dX0_share_4 : decode cX0_share 4 = .ok (.iconst 0, 1) := by decide +kernel
theorem dX0_share_5 : decode cX0_share 5 = .ok (.goto 8, 3) := by decide +kernel
theorem dX0_share_8 : decode cX0_share 8 = .ok (.iload_n 0, 1) := by decide +kernel
theorem dX0_share_9 : decode cX0_share 9 = .ok (.iload_n 1, 1) := by decide +kernel
theorem dX0_share_10 : decode cX0_share 10 = .ok (.imul, 1) := by decide +kernel
theorem dX0_share_11 : decode cX0_share 11 = .ok (.iload_n 2, 1) := by decide +kernel
theorem dX0_share_12 : decode cX0_share 12 = .ok (.idiv, 1) := by decide +kernel
theorem dX0_share_13 : decode cX0_share 13 = .ok (.ireturn, 1) := by decide +kernel
theorem dX1_init_0 : decode cX1_init 0 = .ok (.aload_n 0, 1) := by decide +kernel
theorem dX1_init_1 : decode cX1_init 1 = .ok (.invokespecial 3, 3) := by decide +kernel
theorem dX1_init_4 : decode cX1_init 4 = .ok (.aload_n 0, 1) := by decide +kernel
theorem dX1_init_5 : decode cX1_init 5 = .ok (.bipush 12, 2) := by decide +kernel
theorem dX1_init_7 : decode cX1_init 7 = .ok (.newarray .int, 2) := by decide +kernel
theorem dX1_init_9 : decode cX1_init 9 = .ok (.putfield 9, 3) := by decide +kernel
theorem dX1_init_12 : decode cX1_init 12 = .ok (.aload_n 0, 1) := by decide +kernel
theorem dX1_init_13 : decode cX1_init 13 = .ok (.iconst 0, 1) := by decide +kernel
theorem dX1_init_14 : decode cX1_init 14 = .ok (.putfield 15, 3) := by decide +kernel
theorem dX1_init_17 : decode cX1_init 17 = .ok (.aload_n 0, 1) := by decide +kernel
theorem dX1_init_18 : decode cX1_init 18 = .ok (.sipush 2001, 3) := by decide +kernel
theorem dX1_init_21 : decode cX1_init 21 = .ok (.newarray .int, 2) := by decide +kernel
theorem dX1_init_23 : decode cX1_init 23 = .ok (.putfield 19, 3) := by decide +kernel
theorem dX1_init_26 : decode cX1_init 26 = .ok (.return_, 1) := by decide +kernel
theorem dX1_forgetWidths_0 : decode cX1_forgetWidths 0 = .ok (.aload_n 0, 1) := by decide +kernel
theorem dX1_forgetWidths_1 : decode cX1_forgetWidths 1 = .ok (.iconst 0, 1) := by decide +kernel
theorem dX1_forgetWidths_2 : decode cX1_forgetWidths 2 = .ok (.putfield 15, 3) := by decide +kernel
theorem dX1_forgetWidths_5 : decode cX1_forgetWidths 5 = .ok (.return_, 1) := by decide +kernel
theorem dX1_offerWidth_0 : decode cX1_offerWidth 0 = .ok (.iconst 0, 1) := by decide +kernel
theorem dX1_offerWidth_1 : decode cX1_offerWidth 1 = .ok (.istore_n 2, 1) := by decide +kernel
theorem dX1_offerWidth_2 : decode cX1_offerWidth 2 = .ok (.iload_n 2, 1) := by decide +kernel
theorem dX1_offerWidth_3 : decode cX1_offerWidth 3 = .ok (.aload_n 0, 1) := by decide +kernel
theorem dX1_offerWidth_4 : decode cX1_offerWidth 4 = .ok (.getfield 15, 3) := by decide +kernel
theorem dX1_offerWidth_7 : decode cX1_offerWidth 7 = .ok (.if_icmp .ge 19, 3) := by decide +kernel
theorem dX1_offerWidth_10 : decode cX1_offerWidth 10 = .ok (.aload_n 0, 1) := by decide +kernel
theorem dX1_offerWidth_11 : decode cX1_offerWidth 11 = .ok (.getfield 9, 3) := by decide +kernel
theorem dX1_offerWidth_14 : decode cX1_offerWidth 14 = .ok (.iload_n 2, 1) := by decide +kernel
theorem dX1_offerWidth_15 : decode cX1_offerWidth 15 = .ok (.iaload, 1) := by decide +kernel
theorem dX1_offerWidth_16 : decode cX1_offerWidth 16 = .ok (.iload_n 1, 1) := by decide +kernel
theorem dX1_offerWidth_17 : decode cX1_offerWidth 17 = .ok (.if_icmp .le 9, 3) := by decide +kernel
theorem dX1_offerWidth_20 : decode cX1_offerWidth 20 = .ok (.iinc 2 1, 3) := by decide +kernel
theorem dX1_offerWidth_23 : decode cX1_offerWidth 23 = .ok (.goto (-21), 3) := by decide +kernel
theorem dX1_offerWidth_26 : decode cX1_offerWidth 26 = .ok (.iload_n 2, 1) := by decide +kernel
theorem dX1_offerWidth_27 : decode cX1_offerWidth 27 = .ok (.aload_n 0, 1) := by decide +kernel
theorem dX1_offerWidth_28 : decode cX1_offerWidth 28 = .ok (.getfield 15, 3) := by decide +kernel
theorem dX1_offerWidth_31 : decode cX1_offerWidth 31 = .ok (.if_icmp .ge 17, 3) := by decide +kernel
theorem dX1_offerWidth_34 : decode cX1_offerWidth 34 = .ok (.aload_n 0, 1) := by decide +kernel
theorem dX1_offerWidth_35 : decode cX1_offerWidth 35 = .ok (.getfield 9, 3) := by decide +kernel
theorem dX1_offerWidth_38 : decode cX1_offerWidth 38 = .ok (.iload_n 2, 1) := by decide +kernel
theorem dX1_offerWidth_39 : decode cX1_offerWidth 39 = .ok (.iaload, 1) := by decide +kernel
theorem dX1_offerWidth_40 : decode cX1_offerWidth 40 = .ok (.iload_n 1, 1) := by decide +kernel
theorem dX1_offerWidth_41 : decode cX1_offerWidth 41 = .ok (.if_icmp .ne 7, 3) := by decide +kernel
theorem dX1_offerWidth_44 : decode cX1_offerWidth 44 = .ok (.iconst 1, 1) := by decide +kernel
theorem dX1_offerWidth_45 : decode cX1_offerWidth 45 = .ok (.goto 4, 3) := by decide +kernel
theorem dX1_offerWidth_48 : decode cX1_offerWidth 48 = .ok (.iconst 0, 1) := by decide +kernel
theorem dX1_offerWidth_49 : decode cX1_offerWidth 49 = .ok (.istore_n 3, 1) := by decide +kernel
theorem dX1_offerWidth_50 : decode cX1_offerWidth 50 = .ok (.iload_n 3, 1) := by decide +kernel
theorem dX1_offerWidth_51 : decode cX1_offerWidth 51 = .ok (.ifCond .ne 15, 3) := by decide +kernel
theorem dX1_offerWidth_54 : decode cX1_offerWidth 54 = .ok (.aload_n 0, 1) := by decide +kernel
theorem dX1_offerWidth_55 : decode cX1_offerWidth 55 = .ok (.getfield 15, 3) := by decide +kernel
theorem dX1_offerWidth_58 : decode cX1_offerWidth 58 = .ok (.aload_n 0, 1) := by decide +kernel
theorem dX1_offerWidth_59 : decode cX1_offerWidth 59 = .ok (.getfield 9, 3) := by decide +kernel
theorem dX1_offerWidth_62 : decode cX1_offerWidth 62 = .ok (.arraylength, 1) := by decide +kernel
theorem dX1_offerWidth_63 : decode cX1_offerWidth 63 = .ok (.if_icmp .lt 4, 3) := by decide +kernel
theorem dX1_offerWidth_66 : decode cX1_offerWidth 66 = .ok (.return_, 1) := by decide +kernel
theorem dX1_offerWidth_67 : decode cX1_offerWidth 67 = .ok (.aload_n 0, 1) := by decide +kernel
theorem dX1_offerWidth_68 : decode cX1_offerWidth 68 = .ok (.getfield 15, 3) := by decide +kernel
theorem dX1_offerWidth_71 : decode cX1_offerWidth 71 = .ok (.istore 4, 2) := by decide +kernel
theorem dX1_offerWidth_73 : decode cX1_offerWidth 73 = .ok (.iload 4, 2) := by decide +kernel
theorem dX1_offerWidth_75 : decode cX1_offerWidth 75 = .ok (.iload_n 2, 1) := by decide +kernel
theorem dX1_offerWidth_76 : decode cX1_offerWidth 76 = .ok (.if_icmp .le 25, 3) := by decide +kernel
theorem dX1_offerWidth_79 : decode cX1_offerWidth 79 = .ok (.aload_n 0, 1) := by decide +kernel
theorem dX1_offerWidth_80 : decode cX1_offerWidth 80 = .ok (.getfield 9, 3) := by decide +kernel
theorem dX1_offerWidth_83 : decode cX1_offerWidth 83 = .ok (.iload 4, 2) := by decide +kernel
theorem dX1_offerWidth_85 : decode cX1_offerWidth 85 = .ok (.aload_n 0, 1) := by decide +kernel
theorem dX1_offerWidth_86 : decode cX1_offerWidth 86 = .ok (.getfield 9, 3) := by decide +kernel
theorem dX1_offerWidth_89 : decode cX1_offerWidth 89 = .ok (.iload 4, 2) := by decide +kernel
theorem dX1_offerWidth_91 : decode cX1_offerWidth 91 = .ok (.iconst 1, 1) := by decide +kernel
theorem dX1_offerWidth_92 : decode cX1_offerWidth 92 = .ok (.isub, 1) := by decide +kernel
theorem dX1_offerWidth_93 : decode cX1_offerWidth 93 = .ok (.iaload, 1) := by decide +kernel
theorem dX1_offerWidth_94 : decode cX1_offerWidth 94 = .ok (.iastore, 1) := by decide +kernel
theorem dX1_offerWidth_95 : decode cX1_offerWidth 95 = .ok (.iinc 4 (-1), 3) := by decide +kernel
theorem dX1_offerWidth_98 : decode cX1_offerWidth 98 = .ok (.goto (-25), 3) := by decide +kernel
theorem dX1_offerWidth_101 : decode cX1_offerWidth 101 = .ok (.aload_n 0, 1) := by decide +kernel
theorem dX1_offerWidth_102 : decode cX1_offerWidth 102 = .ok (.getfield 9, 3) := by decide +kernel
theorem dX1_offerWidth_105 : decode cX1_offerWidth 105 = .ok (.iload_n 2, 1) := by decide +kernel
theorem dX1_offerWidth_106 : decode cX1_offerWidth 106 = .ok (.iload_n 1, 1) := by decide +kernel
theorem dX1_offerWidth_107 : decode cX1_offerWidth 107 = .ok (.iastore, 1) := by decide +kernel
theorem dX1_offerWidth_108 : decode cX1_offerWidth 108 = .ok (.aload_n 0, 1) := by decide +kernel
theorem dX1_offerWidth_109 : decode cX1_offerWidth 109 = .ok (.dup, 1) := by decide +kernel
theorem dX1_offerWidth_110 : decode cX1_offerWidth 110 = .ok (.getfield 15, 3) := by decide +kernel
theorem dX1_offerWidth_113 : decode cX1_offerWidth 113 = .ok (.iconst 1, 1) := by decide +kernel
theorem dX1_offerWidth_114 : decode cX1_offerWidth 114 = .ok (.iadd, 1) := by decide +kernel
theorem dX1_offerWidth_115 : decode cX1_offerWidth 115 = .ok (.putfield 15, 3) := by decide +kernel
theorem dX1_offerWidth_118 : decode cX1_offerWidth 118 = .ok (.return_, 1) := by decide +kernel
theorem dX1_greatestTotal_0 : decode cX1_greatestTotal 0 = .ok (.iconst 0, 1) := by decide +kernel
theorem dX1_greatestTotal_1 : decode cX1_greatestTotal 1 = .ok (.istore_n 3, 1) := by decide +kernel
theorem dX1_greatestTotal_2 : decode cX1_greatestTotal 2 = .ok (.iconst 1, 1) := by decide +kernel
theorem dX1_greatestTotal_3 : decode cX1_greatestTotal 3 = .ok (.istore 4, 2) := by decide +kernel
theorem dX1_greatestTotal_5 : decode cX1_greatestTotal 5 = .ok (.iload 4, 2) := by decide +kernel
theorem dX1_greatestTotal_7 : decode cX1_greatestTotal 7 = .ok (.iload_n 1, 1) := by decide +kernel
theorem dX1_greatestTotal_8 : decode cX1_greatestTotal 8 = .ok (.if_icmp .gt 46, 3) := by decide +kernel
theorem dX1_greatestTotal_11 : decode cX1_greatestTotal 11 = .ok (.iload 4, 2) := by decide +kernel
theorem dX1_greatestTotal_13 : decode cX1_greatestTotal 13 = .ok (.aload_n 0, 1) := by decide +kernel
theorem dX1_greatestTotal_14 : decode cX1_greatestTotal 14 = .ok (.getfield 19, 3) := by decide +kernel
theorem dX1_greatestTotal_17 : decode cX1_greatestTotal 17 = .ok (.arraylength, 1) := by decide +kernel
theorem dX1_greatestTotal_18 : decode cX1_greatestTotal 18 = .ok (.if_icmp .ge 36, 3) := by decide +kernel
theorem dX1_greatestTotal_21 : decode cX1_greatestTotal 21 = .ok (.aload_n 0, 1) := by decide +kernel
theorem dX1_greatestTotal_22 : decode cX1_greatestTotal 22 = .ok (.getfield 19, 3) := by decide +kernel
theorem dX1_greatestTotal_25 : decode cX1_greatestTotal 25 = .ok (.iload 4, 2) := by decide +kernel
theorem dX1_greatestTotal_27 : decode cX1_greatestTotal 27 = .ok (.aload_n 0, 1) := by decide +kernel
theorem dX1_greatestTotal_28 : decode cX1_greatestTotal 28 = .ok (.iload 4, 2) := by decide +kernel
theorem dX1_greatestTotal_30 : decode cX1_greatestTotal 30 = .ok (.invokevirtual 22, 3) := by decide +kernel
theorem dX1_greatestTotal_33 : decode cX1_greatestTotal 33 = .ok (.iastore, 1) := by decide +kernel
theorem dX1_greatestTotal_34 : decode cX1_greatestTotal 34 = .ok (.aload_n 0, 1) := by decide +kernel
theorem dX1_greatestTotal_35 : decode cX1_greatestTotal 35 = .ok (.getfield 19, 3) := by decide +kernel
theorem dX1_greatestTotal_38 : decode cX1_greatestTotal 38 = .ok (.iload 4, 2) := by decide +kernel
theorem dX1_greatestTotal_40 : decode cX1_greatestTotal 40 = .ok (.iaload, 1) := by decide +kernel
theorem dX1_greatestTotal_41 : decode cX1_greatestTotal 41 = .ok (.iload_n 2, 1) := by decide +kernel
theorem dX1_greatestTotal_42 : decode cX1_greatestTotal 42 = .ok (.if_icmp .gt 6, 3) := by decide +kernel
theorem dX1_greatestTotal_45 : decode cX1_greatestTotal 45 = .ok (.iload 4, 2) := by decide +kernel
theorem dX1_greatestTotal_47 : decode cX1_greatestTotal 47 = .ok (.istore_n 3, 1) := by decide +kernel
theorem dX1_greatestTotal_48 : decode cX1_greatestTotal 48 = .ok (.iinc 4 1, 3) := by decide +kernel
theorem dX1_greatestTotal_51 : decode cX1_greatestTotal 51 = .ok (.goto (-46), 3) := by decide +kernel
theorem dX1_greatestTotal_54 : decode cX1_greatestTotal 54 = .ok (.iload_n 3, 1) := by decide +kernel
theorem dX1_greatestTotal_55 : decode cX1_greatestTotal 55 = .ok (.ireturn, 1) := by decide +kernel
theorem dX1_fewestSlitsFor_0 : decode cX1_fewestSlitsFor 0 = .ok (.bipush 16, 2) := by decide +kernel
theorem dX1_fewestSlitsFor_2 : decode cX1_fewestSlitsFor 2 = .ok (.istore_n 2, 1) := by decide +kernel
theorem dX1_fewestSlitsFor_3 : decode cX1_fewestSlitsFor 3 = .ok (.iconst 0, 1) := by decide +kernel
theorem dX1_fewestSlitsFor_4 : decode cX1_fewestSlitsFor 4 = .ok (.istore_n 3, 1) := by decide +kernel
theorem dX1_fewestSlitsFor_5 : decode cX1_fewestSlitsFor 5 = .ok (.iload_n 3, 1) := by decide +kernel
theorem dX1_fewestSlitsFor_6 : decode cX1_fewestSlitsFor 6 = .ok (.aload_n 0, 1) := by decide +kernel
theorem dX1_fewestSlitsFor_7 : decode cX1_fewestSlitsFor 7 = .ok (.getfield 15, 3) := by decide +kernel
theorem dX1_fewestSlitsFor_10 : decode cX1_fewestSlitsFor 10 = .ok (.if_icmp .ge 39, 3) := by decide +kernel
theorem dX1_fewestSlitsFor_13 : decode cX1_fewestSlitsFor 13 = .ok (.aload_n 0, 1) := by decide +kernel
theorem dX1_fewestSlitsFor_14 : decode cX1_fewestSlitsFor 14 = .ok (.getfield 9, 3) := by decide +kernel
theorem dX1_fewestSlitsFor_17 : decode cX1_fewestSlitsFor 17 = .ok (.iload_n 3, 1) := by decide +kernel
theorem dX1_fewestSlitsFor_18 : decode cX1_fewestSlitsFor 18 = .ok (.iaload, 1) := by decide +kernel
theorem dX1_fewestSlitsFor_19 : decode cX1_fewestSlitsFor 19 = .ok (.iload_n 1, 1) := by decide +kernel
theorem dX1_fewestSlitsFor_20 : decode cX1_fewestSlitsFor 20 = .ok (.if_icmp .gt 23, 3) := by decide +kernel
theorem dX1_fewestSlitsFor_23 : decode cX1_fewestSlitsFor 23 = .ok (.iload_n 2, 1) := by decide +kernel
theorem dX1_fewestSlitsFor_24 : decode cX1_fewestSlitsFor 24 = .ok (.aload_n 0, 1) := by decide +kernel
theorem dX1_fewestSlitsFor_25 : decode cX1_fewestSlitsFor 25 = .ok (.getfield 19, 3) := by decide +kernel
theorem dX1_fewestSlitsFor_28 : decode cX1_fewestSlitsFor 28 = .ok (.iload_n 1, 1) := by decide +kernel
theorem dX1_fewestSlitsFor_29 : decode cX1_fewestSlitsFor 29 = .ok (.aload_n 0, 1) := by decide +kernel
theorem dX1_fewestSlitsFor_30 : decode cX1_fewestSlitsFor 30 = .ok (.getfield 9, 3) := by decide +kernel
theorem dX1_fewestSlitsFor_33 : decode cX1_fewestSlitsFor 33 = .ok (.iload_n 3, 1) := by decide +kernel
theorem dX1_fewestSlitsFor_34 : decode cX1_fewestSlitsFor 34 = .ok (.iaload, 1) := by decide +kernel
theorem dX1_fewestSlitsFor_35 : decode cX1_fewestSlitsFor 35 = .ok (.isub, 1) := by decide +kernel
theorem dX1_fewestSlitsFor_36 : decode cX1_fewestSlitsFor 36 = .ok (.iaload, 1) := by decide +kernel
theorem dX1_fewestSlitsFor_37 : decode cX1_fewestSlitsFor 37 = .ok (.iconst 1, 1) := by decide +kernel
theorem dX1_fewestSlitsFor_38 : decode cX1_fewestSlitsFor 38 = .ok (.iadd, 1) := by decide +kernel
theorem dX1_fewestSlitsFor_39 : decode cX1_fewestSlitsFor 39 = .ok (.invokestatic 26, 3) := by decide +kernel
theorem dX1_fewestSlitsFor_42 : decode cX1_fewestSlitsFor 42 = .ok (.istore_n 2, 1) := by decide +kernel
theorem dX1_fewestSlitsFor_43 : decode cX1_fewestSlitsFor 43 = .ok (.iinc 3 1, 3) := by decide +kernel
theorem dX1_fewestSlitsFor_46 : decode cX1_fewestSlitsFor 46 = .ok (.goto (-41), 3) := by decide +kernel
theorem dX1_fewestSlitsFor_49 : decode cX1_fewestSlitsFor 49 = .ok (.iload_n 2, 1) := by decide +kernel
theorem dX1_fewestSlitsFor_50 : decode cX1_fewestSlitsFor 50 = .ok (.ireturn, 1) := by decide +kernel
theorem dX1_layOut_0 : decode cX1_layOut 0 = .ok (.aload_n 2, 1) := by decide +kernel
theorem dX1_layOut_1 : decode cX1_layOut 1 = .ok (.invokevirtual 32, 3) := by decide +kernel
theorem dX1_layOut_4 : decode cX1_layOut 4 = .ok (.iload_n 1, 1) := by decide +kernel
theorem dX1_layOut_5 : decode cX1_layOut 5 = .ok (.istore_n 3, 1) := by decide +kernel
theorem dX1_layOut_6 : decode cX1_layOut 6 = .ok (.aload_n 0, 1) := by decide +kernel
theorem dX1_layOut_7 : decode cX1_layOut 7 = .ok (.getfield 19, 3) := by decide +kernel
theorem dX1_layOut_10 : decode cX1_layOut 10 = .ok (.iload_n 1, 1) := by decide +kernel
theorem dX1_layOut_11 : decode cX1_layOut 11 = .ok (.iaload, 1) := by decide +kernel
theorem dX1_layOut_12 : decode cX1_layOut 12 = .ok (.istore 4, 2) := by decide +kernel
theorem dX1_layOut_14 : decode cX1_layOut 14 = .ok (.iload 4, 2) := by decide +kernel
theorem dX1_layOut_16 : decode cX1_layOut 16 = .ok (.ifCond .le 31, 3) := by decide +kernel
theorem dX1_layOut_19 : decode cX1_layOut 19 = .ok (.aload_n 0, 1) := by decide +kernel
theorem dX1_layOut_20 : decode cX1_layOut 20 = .ok (.iload_n 3, 1) := by decide +kernel
theorem dX1_layOut_21 : decode cX1_layOut 21 = .ok (.iload 4, 2) := by decide +kernel
theorem dX1_layOut_23 : decode cX1_layOut 23 = .ok (.iconst 1, 1) := by decide +kernel
theorem dX1_layOut_24 : decode cX1_layOut 24 = .ok (.isub, 1) := by decide +kernel
theorem dX1_layOut_25 : decode cX1_layOut 25 = .ok (.invokevirtual 37, 3) := by decide +kernel
theorem dX1_layOut_28 : decode cX1_layOut 28 = .ok (.istore 5, 2) := by decide +kernel
theorem dX1_layOut_30 : decode cX1_layOut 30 = .ok (.aload_n 2, 1) := by decide +kernel
theorem dX1_layOut_31 : decode cX1_layOut 31 = .ok (.iload 5, 2) := by decide +kernel
theorem dX1_layOut_33 : decode cX1_layOut 33 = .ok (.invokevirtual 40, 3) := by decide +kernel
theorem dX1_layOut_36 : decode cX1_layOut 36 = .ok (.iload_n 3, 1) := by decide +kernel
theorem dX1_layOut_37 : decode cX1_layOut 37 = .ok (.iload 5, 2) := by decide +kernel
theorem dX1_layOut_39 : decode cX1_layOut 39 = .ok (.isub, 1) := by decide +kernel
theorem dX1_layOut_40 : decode cX1_layOut 40 = .ok (.istore_n 3, 1) := by decide +kernel
theorem dX1_layOut_41 : decode cX1_layOut 41 = .ok (.iinc 4 (-1), 3) := by decide +kernel
theorem dX1_layOut_44 : decode cX1_layOut 44 = .ok (.goto (-30), 3) := by decide +kernel
theorem dX1_layOut_47 : decode cX1_layOut 47 = .ok (.return_, 1) := by decide +kernel
theorem dX1_greatestBefore_0 : decode cX1_greatestBefore 0 = .ok (.iconst 0, 1) := by decide +kernel
theorem dX1_greatestBefore_1 : decode cX1_greatestBefore 1 = .ok (.istore_n 3, 1) := by decide +kernel
theorem dX1_greatestBefore_2 : decode cX1_greatestBefore 2 = .ok (.iload_n 3, 1) := by decide +kernel
theorem dX1_greatestBefore_3 : decode cX1_greatestBefore 3 = .ok (.aload_n 0, 1) := by decide +kernel
theorem dX1_greatestBefore_4 : decode cX1_greatestBefore 4 = .ok (.getfield 15, 3) := by decide +kernel
theorem dX1_greatestBefore_7 : decode cX1_greatestBefore 7 = .ok (.if_icmp .ge 43, 3) := by decide +kernel
theorem dX1_greatestBefore_10 : decode cX1_greatestBefore 10 = .ok (.aload_n 0, 1) := by decide +kernel
theorem dX1_greatestBefore_11 : decode cX1_greatestBefore 11 = .ok (.getfield 9, 3) := by decide +kernel
theorem dX1_greatestBefore_14 : decode cX1_greatestBefore 14 = .ok (.iload_n 3, 1) := by decide +kernel
theorem dX1_greatestBefore_15 : decode cX1_greatestBefore 15 = .ok (.iaload, 1) := by decide +kernel
theorem dX1_greatestBefore_16 : decode cX1_greatestBefore 16 = .ok (.iload_n 1, 1) := by decide +kernel
theorem dX1_greatestBefore_17 : decode cX1_greatestBefore 17 = .ok (.if_icmp .gt 27, 3) := by decide +kernel
theorem dX1_greatestBefore_20 : decode cX1_greatestBefore 20 = .ok (.aload_n 0, 1) := by decide +kernel
theorem dX1_greatestBefore_21 : decode cX1_greatestBefore 21 = .ok (.getfield 19, 3) := by decide +kernel
theorem dX1_greatestBefore_24 : decode cX1_greatestBefore 24 = .ok (.iload_n 1, 1) := by decide +kernel
theorem dX1_greatestBefore_25 : decode cX1_greatestBefore 25 = .ok (.aload_n 0, 1) := by decide +kernel
theorem dX1_greatestBefore_26 : decode cX1_greatestBefore 26 = .ok (.getfield 9, 3) := by decide +kernel
theorem dX1_greatestBefore_29 : decode cX1_greatestBefore 29 = .ok (.iload_n 3, 1) := by decide +kernel
theorem dX1_greatestBefore_30 : decode cX1_greatestBefore 30 = .ok (.iaload, 1) := by decide +kernel
theorem dX1_greatestBefore_31 : decode cX1_greatestBefore 31 = .ok (.isub, 1) := by decide +kernel
theorem dX1_greatestBefore_32 : decode cX1_greatestBefore 32 = .ok (.iaload, 1) := by decide +kernel
theorem dX1_greatestBefore_33 : decode cX1_greatestBefore 33 = .ok (.iload_n 2, 1) := by decide +kernel
theorem dX1_greatestBefore_34 : decode cX1_greatestBefore 34 = .ok (.if_icmp .ne 10, 3) := by decide +kernel
theorem dX1_greatestBefore_37 : decode cX1_greatestBefore 37 = .ok (.aload_n 0, 1) := by decide +kernel
theorem dX1_greatestBefore_38 : decode cX1_greatestBefore 38 = .ok (.getfield 9, 3) := by decide +kernel
theorem dX1_greatestBefore_41 : decode cX1_greatestBefore 41 = .ok (.iload_n 3, 1) := by decide +kernel
theorem dX1_greatestBefore_42 : decode cX1_greatestBefore 42 = .ok (.iaload, 1) := by decide +kernel
theorem dX1_greatestBefore_43 : decode cX1_greatestBefore 43 = .ok (.ireturn, 1) := by decide +kernel
theorem dX1_greatestBefore_44 : decode cX1_greatestBefore 44 = .ok (.iinc 3 1, 3) := by decide +kernel
theorem dX1_greatestBefore_47 : decode cX1_greatestBefore 47 = .ok (.goto (-45), 3) := by decide +kernel
theorem dX1_greatestBefore_50 : decode cX1_greatestBefore 50 = .ok (.iconst 0, 1) := by decide +kernel
theorem dX1_greatestBefore_51 : decode cX1_greatestBefore 51 = .ok (.ireturn, 1) := by decide +kernel
theorem dX1_greatestTotalByTrying_0 : decode cX1_greatestTotalByTrying 0 = .ok (.aload_n 0, 1) := by decide +kernel
theorem dX1_greatestTotalByTrying_1 : decode cX1_greatestTotalByTrying 1 = .ok (.getfield 9, 3) := by decide +kernel
theorem dX1_greatestTotalByTrying_4 : decode cX1_greatestTotalByTrying 4 = .ok (.aload_n 0, 1) := by decide +kernel
theorem dX1_greatestTotalByTrying_5 : decode cX1_greatestTotalByTrying 5 = .ok (.getfield 15, 3) := by decide +kernel
theorem dX1_greatestTotalByTrying_8 : decode cX1_greatestTotalByTrying 8 = .ok (.iconst 0, 1) := by decide +kernel
theorem dX1_greatestTotalByTrying_9 : decode cX1_greatestTotalByTrying 9 = .ok (.iload_n 1, 1) := by decide +kernel
theorem dX1_greatestTotalByTrying_10 : decode cX1_greatestTotalByTrying 10 = .ok (.iload_n 2, 1) := by decide +kernel
theorem dX1_greatestTotalByTrying_11 : decode cX1_greatestTotalByTrying 11 = .ok (.invokestatic 44, 3) := by decide +kernel
theorem dX1_greatestTotalByTrying_14 : decode cX1_greatestTotalByTrying 14 = .ok (.ireturn, 1) := by decide +kernel
theorem dX1_tryFrom_0 : decode cX1_tryFrom 0 = .ok (.iconst 0, 1) := by decide +kernel
theorem dX1_tryFrom_1 : decode cX1_tryFrom 1 = .ok (.istore 5, 2) := by decide +kernel
theorem dX1_tryFrom_3 : decode cX1_tryFrom 3 = .ok (.iload 4, 2) := by decide +kernel
theorem dX1_tryFrom_5 : decode cX1_tryFrom 5 = .ok (.ifCond .gt 6, 3) := by decide +kernel
theorem dX1_tryFrom_8 : decode cX1_tryFrom 8 = .ok (.iload 5, 2) := by decide +kernel
theorem dX1_tryFrom_10 : decode cX1_tryFrom 10 = .ok (.ireturn, 1) := by decide +kernel
theorem dX1_tryFrom_11 : decode cX1_tryFrom 11 = .ok (.iload_n 2, 1) := by decide +kernel
theorem dX1_tryFrom_12 : decode cX1_tryFrom 12 = .ok (.istore 6, 2) := by decide +kernel
theorem dX1_tryFrom_14 : decode cX1_tryFrom 14 = .ok (.iload 6, 2) := by decide +kernel
theorem dX1_tryFrom_16 : decode cX1_tryFrom 16 = .ok (.iload_n 1, 1) := by decide +kernel
theorem dX1_tryFrom_17 : decode cX1_tryFrom 17 = .ok (.if_icmp .ge 50, 3) := by decide +kernel
theorem dX1_tryFrom_20 : decode cX1_tryFrom 20 = .ok (.aload_n 0, 1) := by decide +kernel
theorem dX1_tryFrom_21 : decode cX1_tryFrom 21 = .ok (.iload 6, 2) := by decide +kernel
theorem dX1_tryFrom_23 : decode cX1_tryFrom 23 = .ok (.iaload, 1) := by decide +kernel
theorem dX1_tryFrom_24 : decode cX1_tryFrom 24 = .ok (.iload_n 3, 1) := by decide +kernel
theorem dX1_tryFrom_25 : decode cX1_tryFrom 25 = .ok (.if_icmp .gt 36, 3) := by decide +kernel
theorem dX1_tryFrom_28 : decode cX1_tryFrom 28 = .ok (.aload_n 0, 1) := by decide +kernel
theorem dX1_tryFrom_29 : decode cX1_tryFrom 29 = .ok (.iload 6, 2) := by decide +kernel
theorem dX1_tryFrom_31 : decode cX1_tryFrom 31 = .ok (.iaload, 1) := by decide +kernel
theorem dX1_tryFrom_32 : decode cX1_tryFrom 32 = .ok (.aload_n 0, 1) := by decide +kernel
theorem dX1_tryFrom_33 : decode cX1_tryFrom 33 = .ok (.iload_n 1, 1) := by decide +kernel
theorem dX1_tryFrom_34 : decode cX1_tryFrom 34 = .ok (.iload 6, 2) := by decide +kernel
theorem dX1_tryFrom_36 : decode cX1_tryFrom 36 = .ok (.iload_n 3, 1) := by decide +kernel
theorem dX1_tryFrom_37 : decode cX1_tryFrom 37 = .ok (.aload_n 0, 1) := by decide +kernel
theorem dX1_tryFrom_38 : decode cX1_tryFrom 38 = .ok (.iload 6, 2) := by decide +kernel
theorem dX1_tryFrom_40 : decode cX1_tryFrom 40 = .ok (.iaload, 1) := by decide +kernel
theorem dX1_tryFrom_41 : decode cX1_tryFrom 41 = .ok (.isub, 1) := by decide +kernel
theorem dX1_tryFrom_42 : decode cX1_tryFrom 42 = .ok (.iload 4, 2) := by decide +kernel
theorem dX1_tryFrom_44 : decode cX1_tryFrom 44 = .ok (.iconst 1, 1) := by decide +kernel
theorem dX1_tryFrom_45 : decode cX1_tryFrom 45 = .ok (.isub, 1) := by decide +kernel
theorem dX1_tryFrom_46 : decode cX1_tryFrom 46 = .ok (.invokestatic 44, 3) := by decide +kernel
theorem dX1_tryFrom_49 : decode cX1_tryFrom 49 = .ok (.iadd, 1) := by decide +kernel
theorem dX1_tryFrom_50 : decode cX1_tryFrom 50 = .ok (.istore 7, 2) := by decide +kernel
theorem dX1_tryFrom_52 : decode cX1_tryFrom 52 = .ok (.iload 5, 2) := by decide +kernel
theorem dX1_tryFrom_54 : decode cX1_tryFrom 54 = .ok (.iload 7, 2) := by decide +kernel
theorem dX1_tryFrom_56 : decode cX1_tryFrom 56 = .ok (.invokestatic 48, 3) := by decide +kernel
theorem dX1_tryFrom_59 : decode cX1_tryFrom 59 = .ok (.istore 5, 2) := by decide +kernel
theorem dX1_tryFrom_61 : decode cX1_tryFrom 61 = .ok (.iinc 6 1, 3) := by decide +kernel
theorem dX1_tryFrom_64 : decode cX1_tryFrom 64 = .ok (.goto (-50), 3) := by decide +kernel
theorem dX1_tryFrom_67 : decode cX1_tryFrom 67 = .ok (.iload 5, 2) := by decide +kernel
theorem dX1_tryFrom_69 : decode cX1_tryFrom 69 = .ok (.ireturn, 1) := by decide +kernel
theorem dX2_init_0 : decode cX2_init 0 = .ok (.aload_n 0, 1) := by decide +kernel
theorem dX2_init_1 : decode cX2_init 1 = .ok (.invokespecial 3, 3) := by decide +kernel
theorem dX2_init_4 : decode cX2_init 4 = .ok (.aload_n 0, 1) := by decide +kernel
theorem dX2_init_5 : decode cX2_init 5 = .ok (.iconst 0, 1) := by decide +kernel
theorem dX2_init_6 : decode cX2_init 6 = .ok (.putfield 9, 3) := by decide +kernel
theorem dX2_init_9 : decode cX2_init 9 = .ok (.aload_n 0, 1) := by decide +kernel
theorem dX2_init_10 : decode cX2_init 10 = .ok (.iconst 0, 1) := by decide +kernel
theorem dX2_init_11 : decode cX2_init 11 = .ok (.putfield 15, 3) := by decide +kernel
theorem dX2_init_14 : decode cX2_init 14 = .ok (.aload_n 0, 1) := by decide +kernel
theorem dX2_init_15 : decode cX2_init 15 = .ok (.iconst 0, 1) := by decide +kernel
theorem dX2_init_16 : decode cX2_init 16 = .ok (.putfield 18, 3) := by decide +kernel
theorem dX2_init_19 : decode cX2_init 19 = .ok (.aload_n 0, 1) := by decide +kernel
theorem dX2_init_20 : decode cX2_init 20 = .ok (.iconst (-1), 1) := by decide +kernel
theorem dX2_init_21 : decode cX2_init 21 = .ok (.putfield 21, 3) := by decide +kernel
theorem dX2_init_24 : decode cX2_init 24 = .ok (.return_, 1) := by decide +kernel
theorem dX2_describe_0 : decode cX2_describe 0 = .ok (.aload_n 0, 1) := by decide +kernel
theorem dX2_describe_1 : decode cX2_describe 1 = .ok (.iload_n 1, 1) := by decide +kernel
theorem dX2_describe_2 : decode cX2_describe 2 = .ok (.putfield 9, 3) := by decide +kernel
theorem dX2_describe_5 : decode cX2_describe 5 = .ok (.aload_n 0, 1) := by decide +kernel
theorem dX2_describe_6 : decode cX2_describe 6 = .ok (.iload_n 2, 1) := by decide +kernel
theorem dX2_describe_7 : decode cX2_describe 7 = .ok (.putfield 15, 3) := by decide +kernel
theorem dX2_describe_10 : decode cX2_describe 10 = .ok (.return_, 1) := by decide +kernel
theorem dX2_wouldTakeHeat_0 : decode cX2_wouldTakeHeat 0 = .ok (.aload_n 0, 1) := by decide +kernel
theorem dX2_wouldTakeHeat_1 : decode cX2_wouldTakeHeat 1 = .ok (.getfield 18, 3) := by decide +kernel
theorem dX2_wouldTakeHeat_4 : decode cX2_wouldTakeHeat 4 = .ok (.aload_n 0, 1) := by decide +kernel
theorem dX2_wouldTakeHeat_5 : decode cX2_wouldTakeHeat 5 = .ok (.getfield 15, 3) := by decide +kernel
theorem dX2_wouldTakeHeat_8 : decode cX2_wouldTakeHeat 8 = .ok (.if_icmp .ge 23, 3) := by decide +kernel
theorem dX2_wouldTakeHeat_11 : decode cX2_wouldTakeHeat 11 = .ok (.aload_n 0, 1) := by decide +kernel
theorem dX2_wouldTakeHeat_12 : decode cX2_wouldTakeHeat 12 = .ok (.getfield 21, 3) := by decide +kernel
theorem dX2_wouldTakeHeat_15 : decode cX2_wouldTakeHeat 15 = .ok (.iconst (-1), 1) := by decide +kernel
theorem dX2_wouldTakeHeat_16 : decode cX2_wouldTakeHeat 16 = .ok (.if_icmp .eq 11, 3) := by decide +kernel
theorem dX2_wouldTakeHeat_19 : decode cX2_wouldTakeHeat 19 = .ok (.aload_n 0, 1) := by decide +kernel
theorem dX2_wouldTakeHeat_20 : decode cX2_wouldTakeHeat 20 = .ok (.getfield 21, 3) := by decide +kernel
theorem dX2_wouldTakeHeat_23 : decode cX2_wouldTakeHeat 23 = .ok (.iload_n 1, 1) := by decide +kernel
theorem dX2_wouldTakeHeat_24 : decode cX2_wouldTakeHeat 24 = .ok (.if_icmp .ne 7, 3) := by decide +kernel
theorem dX2_wouldTakeHeat_27 : decode cX2_wouldTakeHeat 27 = .ok (.iconst 1, 1) := by decide +kernel
theorem dX2_wouldTakeHeat_28 : decode cX2_wouldTakeHeat 28 = .ok (.goto 4, 3) := by decide +kernel
theorem dX2_wouldTakeHeat_31 : decode cX2_wouldTakeHeat 31 = .ok (.iconst 0, 1) := by decide +kernel
theorem dX2_wouldTakeHeat_32 : decode cX2_wouldTakeHeat 32 = .ok (.ireturn, 1) := by decide +kernel
theorem dX2_receive_0 : decode cX2_receive 0 = .ok (.aload_n 0, 1) := by decide +kernel
theorem dX2_receive_1 : decode cX2_receive 1 = .ok (.dup, 1) := by decide +kernel
theorem dX2_receive_2 : decode cX2_receive 2 = .ok (.getfield 18, 3) := by decide +kernel
theorem dX2_receive_5 : decode cX2_receive 5 = .ok (.iload_n 1, 1) := by decide +kernel
theorem dX2_receive_6 : decode cX2_receive 6 = .ok (.iadd, 1) := by decide +kernel
theorem dX2_receive_7 : decode cX2_receive 7 = .ok (.putfield 18, 3) := by decide +kernel
theorem dX2_receive_10 : decode cX2_receive 10 = .ok (.aload_n 0, 1) := by decide +kernel
theorem dX2_receive_11 : decode cX2_receive 11 = .ok (.iload_n 2, 1) := by decide +kernel
theorem dX2_receive_12 : decode cX2_receive 12 = .ok (.putfield 21, 3) := by decide +kernel
theorem dX2_receive_15 : decode cX2_receive 15 = .ok (.return_, 1) := by decide +kernel
theorem dX3_init_0 : decode cX3_init 0 = .ok (.aload_n 0, 1) := by decide +kernel
theorem dX3_init_1 : decode cX3_init 1 = .ok (.invokespecial 3, 3) := by decide +kernel
theorem dX3_init_4 : decode cX3_init 4 = .ok (.aload_n 0, 1) := by decide +kernel
theorem dX3_init_5 : decode cX3_init 5 = .ok (.bipush 15, 2) := by decide +kernel
theorem dX3_init_7 : decode cX3_init 7 = .ok (.newarray .int, 2) := by decide +kernel
theorem dX3_init_9 : decode cX3_init 9 = .ok (.putfield 9, 3) := by decide +kernel
theorem dX3_init_12 : decode cX3_init 12 = .ok (.aload_n 0, 1) := by decide +kernel
theorem dX3_init_13 : decode cX3_init 13 = .ok (.iconst 0, 1) := by decide +kernel
theorem dX3_init_14 : decode cX3_init 14 = .ok (.putfield 15, 3) := by decide +kernel
theorem dX3_init_17 : decode cX3_init 17 = .ok (.return_, 1) := by decide +kernel
theorem dX3_isFull_0 : decode cX3_isFull 0 = .ok (.aload_n 0, 1) := by decide +kernel
theorem dX3_isFull_1 : decode cX3_isFull 1 = .ok (.getfield 15, 3) := by decide +kernel
theorem dX3_isFull_4 : decode cX3_isFull 4 = .ok (.aload_n 0, 1) := by decide +kernel
theorem dX3_isFull_5 : decode cX3_isFull 5 = .ok (.getfield 9, 3) := by decide +kernel
theorem dX3_isFull_8 : decode cX3_isFull 8 = .ok (.arraylength, 1) := by decide +kernel
theorem dX3_isFull_9 : decode cX3_isFull 9 = .ok (.if_icmp .lt 7, 3) := by decide +kernel
theorem dX3_isFull_12 : decode cX3_isFull 12 = .ok (.iconst 1, 1) := by decide +kernel
theorem dX3_isFull_13 : decode cX3_isFull 13 = .ok (.goto 4, 3) := by decide +kernel
theorem dX3_isFull_16 : decode cX3_isFull 16 = .ok (.iconst 0, 1) := by decide +kernel
theorem dX3_isFull_17 : decode cX3_isFull 17 = .ok (.ireturn, 1) := by decide +kernel
theorem dX3_hasSlitAt_0 : decode cX3_hasSlitAt 0 = .ok (.iload_n 1, 1) := by decide +kernel
theorem dX3_hasSlitAt_1 : decode cX3_hasSlitAt 1 = .ok (.ifCond .lt 15, 3) := by decide +kernel
theorem dX3_hasSlitAt_4 : decode cX3_hasSlitAt 4 = .ok (.iload_n 1, 1) := by decide +kernel
theorem dX3_hasSlitAt_5 : decode cX3_hasSlitAt 5 = .ok (.aload_n 0, 1) := by decide +kernel
theorem dX3_hasSlitAt_6 : decode cX3_hasSlitAt 6 = .ok (.getfield 15, 3) := by decide +kernel
theorem dX3_hasSlitAt_9 : decode cX3_hasSlitAt 9 = .ok (.if_icmp .ge 7, 3) := by decide +kernel
theorem dX3_hasSlitAt_12 : decode cX3_hasSlitAt 12 = .ok (.iconst 1, 1) := by decide +kernel
theorem dX3_hasSlitAt_13 : decode cX3_hasSlitAt 13 = .ok (.goto 4, 3) := by decide +kernel
theorem dX3_hasSlitAt_16 : decode cX3_hasSlitAt 16 = .ok (.iconst 0, 1) := by decide +kernel
theorem dX3_hasSlitAt_17 : decode cX3_hasSlitAt 17 = .ok (.ireturn, 1) := by decide +kernel
theorem dX3_empty_0 : decode cX3_empty 0 = .ok (.aload_n 0, 1) := by decide +kernel
theorem dX3_empty_1 : decode cX3_empty 1 = .ok (.iconst 0, 1) := by decide +kernel
theorem dX3_empty_2 : decode cX3_empty 2 = .ok (.putfield 15, 3) := by decide +kernel
theorem dX3_empty_5 : decode cX3_empty 5 = .ok (.return_, 1) := by decide +kernel
theorem dX3_append_0 : decode cX3_append 0 = .ok (.aload_n 0, 1) := by decide +kernel
theorem dX3_append_1 : decode cX3_append 1 = .ok (.invokevirtual 19, 3) := by decide +kernel
theorem dX3_append_4 : decode cX3_append 4 = .ok (.ifCond .ne 23, 3) := by decide +kernel
theorem dX3_append_7 : decode cX3_append 7 = .ok (.aload_n 0, 1) := by decide +kernel
theorem dX3_append_8 : decode cX3_append 8 = .ok (.getfield 9, 3) := by decide +kernel
theorem dX3_append_11 : decode cX3_append 11 = .ok (.aload_n 0, 1) := by decide +kernel
theorem dX3_append_12 : decode cX3_append 12 = .ok (.getfield 15, 3) := by decide +kernel
theorem dX3_append_15 : decode cX3_append 15 = .ok (.iload_n 1, 1) := by decide +kernel
theorem dX3_append_16 : decode cX3_append 16 = .ok (.iastore, 1) := by decide +kernel
theorem dX3_append_17 : decode cX3_append 17 = .ok (.aload_n 0, 1) := by decide +kernel
theorem dX3_append_18 : decode cX3_append 18 = .ok (.dup, 1) := by decide +kernel
theorem dX3_append_19 : decode cX3_append 19 = .ok (.getfield 15, 3) := by decide +kernel
theorem dX3_append_22 : decode cX3_append 22 = .ok (.iconst 1, 1) := by decide +kernel
theorem dX3_append_23 : decode cX3_append 23 = .ok (.iadd, 1) := by decide +kernel
theorem dX3_append_24 : decode cX3_append 24 = .ok (.putfield 15, 3) := by decide +kernel
theorem dX3_append_27 : decode cX3_append 27 = .ok (.return_, 1) := by decide +kernel
theorem dX3_becomeCopyOf_0 : decode cX3_becomeCopyOf 0 = .ok (.aload_n 0, 1) := by decide +kernel
theorem dX3_becomeCopyOf_1 : decode cX3_becomeCopyOf 1 = .ok (.invokevirtual 23, 3) := by decide +kernel
theorem dX3_becomeCopyOf_4 : decode cX3_becomeCopyOf 4 = .ok (.iconst 0, 1) := by decide +kernel
theorem dX3_becomeCopyOf_5 : decode cX3_becomeCopyOf 5 = .ok (.istore_n 2, 1) := by decide +kernel
theorem dX3_becomeCopyOf_6 : decode cX3_becomeCopyOf 6 = .ok (.iload_n 2, 1) := by decide +kernel
theorem dX3_becomeCopyOf_7 : decode cX3_becomeCopyOf 7 = .ok (.aload_n 1, 1) := by decide +kernel
theorem dX3_becomeCopyOf_8 : decode cX3_becomeCopyOf 8 = .ok (.getfield 15, 3) := by decide +kernel
theorem dX3_becomeCopyOf_11 : decode cX3_becomeCopyOf 11 = .ok (.if_icmp .ge 19, 3) := by decide +kernel
theorem dX3_becomeCopyOf_14 : decode cX3_becomeCopyOf 14 = .ok (.aload_n 0, 1) := by decide +kernel
theorem dX3_becomeCopyOf_15 : decode cX3_becomeCopyOf 15 = .ok (.aload_n 1, 1) := by decide +kernel
theorem dX3_becomeCopyOf_16 : decode cX3_becomeCopyOf 16 = .ok (.getfield 9, 3) := by decide +kernel
theorem dX3_becomeCopyOf_19 : decode cX3_becomeCopyOf 19 = .ok (.iload_n 2, 1) := by decide +kernel
theorem dX3_becomeCopyOf_20 : decode cX3_becomeCopyOf 20 = .ok (.iaload, 1) := by decide +kernel
theorem dX3_becomeCopyOf_21 : decode cX3_becomeCopyOf 21 = .ok (.invokevirtual 26, 3) := by decide +kernel
theorem dX3_becomeCopyOf_24 : decode cX3_becomeCopyOf 24 = .ok (.iinc 2 1, 3) := by decide +kernel
theorem dX3_becomeCopyOf_27 : decode cX3_becomeCopyOf 27 = .ok (.goto (-21), 3) := by decide +kernel
theorem dX3_becomeCopyOf_30 : decode cX3_becomeCopyOf 30 = .ok (.return_, 1) := by decide +kernel
theorem dX3_totalWidth_0 : decode cX3_totalWidth 0 = .ok (.iconst 0, 1) := by decide +kernel
theorem dX3_totalWidth_1 : decode cX3_totalWidth 1 = .ok (.istore_n 1, 1) := by decide +kernel
theorem dX3_totalWidth_2 : decode cX3_totalWidth 2 = .ok (.iconst 0, 1) := by decide +kernel
theorem dX3_totalWidth_3 : decode cX3_totalWidth 3 = .ok (.istore_n 2, 1) := by decide +kernel
theorem dX3_totalWidth_4 : decode cX3_totalWidth 4 = .ok (.iload_n 2, 1) := by decide +kernel
theorem dX3_totalWidth_5 : decode cX3_totalWidth 5 = .ok (.aload_n 0, 1) := by decide +kernel
theorem dX3_totalWidth_6 : decode cX3_totalWidth 6 = .ok (.getfield 15, 3) := by decide +kernel
theorem dX3_totalWidth_9 : decode cX3_totalWidth 9 = .ok (.if_icmp .ge 18, 3) := by decide +kernel
theorem dX3_totalWidth_12 : decode cX3_totalWidth 12 = .ok (.iload_n 1, 1) := by decide +kernel
theorem dX3_totalWidth_13 : decode cX3_totalWidth 13 = .ok (.aload_n 0, 1) := by decide +kernel
theorem dX3_totalWidth_14 : decode cX3_totalWidth 14 = .ok (.getfield 9, 3) := by decide +kernel
theorem dX3_totalWidth_17 : decode cX3_totalWidth 17 = .ok (.iload_n 2, 1) := by decide +kernel
theorem dX3_totalWidth_18 : decode cX3_totalWidth 18 = .ok (.iaload, 1) := by decide +kernel
theorem dX3_totalWidth_19 : decode cX3_totalWidth 19 = .ok (.iadd, 1) := by decide +kernel
theorem dX3_totalWidth_20 : decode cX3_totalWidth 20 = .ok (.istore_n 1, 1) := by decide +kernel
theorem dX3_totalWidth_21 : decode cX3_totalWidth 21 = .ok (.iinc 2 1, 3) := by decide +kernel
theorem dX3_totalWidth_24 : decode cX3_totalWidth 24 = .ok (.goto (-20), 3) := by decide +kernel
theorem dX3_totalWidth_27 : decode cX3_totalWidth 27 = .ok (.iload_n 1, 1) := by decide +kernel
theorem dX3_totalWidth_28 : decode cX3_totalWidth 28 = .ok (.ireturn, 1) := by decide +kernel
theorem dX3_knivesNeeded_0 : decode cX3_knivesNeeded 0 = .ok (.aload_n 0, 1) := by decide +kernel
theorem dX3_knivesNeeded_1 : decode cX3_knivesNeeded 1 = .ok (.getfield 15, 3) := by decide +kernel
theorem dX3_knivesNeeded_4 : decode cX3_knivesNeeded 4 = .ok (.iconst 1, 1) := by decide +kernel
theorem dX3_knivesNeeded_5 : decode cX3_knivesNeeded 5 = .ok (.iadd, 1) := by decide +kernel
theorem dX3_knivesNeeded_6 : decode cX3_knivesNeeded 6 = .ok (.ireturn, 1) := by decide +kernel
theorem dX3_knivesNotIn_0 : decode cX3_knivesNotIn 0 = .ok (.iconst 0, 1) := by decide +kernel
theorem dX3_knivesNotIn_1 : decode cX3_knivesNotIn 1 = .ok (.istore_n 2, 1) := by decide +kernel
theorem dX3_knivesNotIn_2 : decode cX3_knivesNotIn 2 = .ok (.iconst 0, 1) := by decide +kernel
theorem dX3_knivesNotIn_3 : decode cX3_knivesNotIn 3 = .ok (.istore_n 3, 1) := by decide +kernel
theorem dX3_knivesNotIn_4 : decode cX3_knivesNotIn 4 = .ok (.iconst 0, 1) := by decide +kernel
theorem dX3_knivesNotIn_5 : decode cX3_knivesNotIn 5 = .ok (.istore 4, 2) := by decide +kernel
theorem dX3_knivesNotIn_7 : decode cX3_knivesNotIn 7 = .ok (.iload 4, 2) := by decide +kernel
theorem dX3_knivesNotIn_9 : decode cX3_knivesNotIn 9 = .ok (.aload_n 0, 1) := by decide +kernel
theorem dX3_knivesNotIn_10 : decode cX3_knivesNotIn 10 = .ok (.getfield 15, 3) := by decide +kernel
theorem dX3_knivesNotIn_13 : decode cX3_knivesNotIn 13 = .ok (.if_icmp .ge 30, 3) := by decide +kernel
theorem dX3_knivesNotIn_16 : decode cX3_knivesNotIn 16 = .ok (.iload_n 3, 1) := by decide +kernel
theorem dX3_knivesNotIn_17 : decode cX3_knivesNotIn 17 = .ok (.aload_n 0, 1) := by decide +kernel
theorem dX3_knivesNotIn_18 : decode cX3_knivesNotIn 18 = .ok (.getfield 9, 3) := by decide +kernel
theorem dX3_knivesNotIn_21 : decode cX3_knivesNotIn 21 = .ok (.iload 4, 2) := by decide +kernel
theorem dX3_knivesNotIn_23 : decode cX3_knivesNotIn 23 = .ok (.iaload, 1) := by decide +kernel
theorem dX3_knivesNotIn_24 : decode cX3_knivesNotIn 24 = .ok (.iadd, 1) := by decide +kernel
theorem dX3_knivesNotIn_25 : decode cX3_knivesNotIn 25 = .ok (.istore_n 3, 1) := by decide +kernel
theorem dX3_knivesNotIn_26 : decode cX3_knivesNotIn 26 = .ok (.aload_n 1, 1) := by decide +kernel
theorem dX3_knivesNotIn_27 : decode cX3_knivesNotIn 27 = .ok (.iload_n 3, 1) := by decide +kernel
theorem dX3_knivesNotIn_28 : decode cX3_knivesNotIn 28 = .ok (.invokevirtual 30, 3) := by decide +kernel
theorem dX3_knivesNotIn_31 : decode cX3_knivesNotIn 31 = .ok (.ifCond .ne 6, 3) := by decide +kernel
theorem dX3_knivesNotIn_34 : decode cX3_knivesNotIn 34 = .ok (.iinc 2 1, 3) := by decide +kernel
theorem dX3_knivesNotIn_37 : decode cX3_knivesNotIn 37 = .ok (.iinc 4 1, 3) := by decide +kernel
theorem dX3_knivesNotIn_40 : decode cX3_knivesNotIn 40 = .ok (.goto (-33), 3) := by decide +kernel
theorem dX3_knivesNotIn_43 : decode cX3_knivesNotIn 43 = .ok (.iload_n 2, 1) := by decide +kernel
theorem dX3_knivesNotIn_44 : decode cX3_knivesNotIn 44 = .ok (.ireturn, 1) := by decide +kernel
theorem dX3_hasKnifeAt_0 : decode cX3_hasKnifeAt 0 = .ok (.iconst 0, 1) := by decide +kernel
theorem dX3_hasKnifeAt_1 : decode cX3_hasKnifeAt 1 = .ok (.istore_n 2, 1) := by decide +kernel
theorem dX3_hasKnifeAt_2 : decode cX3_hasKnifeAt 2 = .ok (.iconst 0, 1) := by decide +kernel
theorem dX3_hasKnifeAt_3 : decode cX3_hasKnifeAt 3 = .ok (.istore_n 3, 1) := by decide +kernel
theorem dX3_hasKnifeAt_4 : decode cX3_hasKnifeAt 4 = .ok (.iload_n 3, 1) := by decide +kernel
theorem dX3_hasKnifeAt_5 : decode cX3_hasKnifeAt 5 = .ok (.aload_n 0, 1) := by decide +kernel
theorem dX3_hasKnifeAt_6 : decode cX3_hasKnifeAt 6 = .ok (.getfield 15, 3) := by decide +kernel
theorem dX3_hasKnifeAt_9 : decode cX3_hasKnifeAt 9 = .ok (.if_icmp .ge 23, 3) := by decide +kernel
theorem dX3_hasKnifeAt_12 : decode cX3_hasKnifeAt 12 = .ok (.iload_n 2, 1) := by decide +kernel
theorem dX3_hasKnifeAt_13 : decode cX3_hasKnifeAt 13 = .ok (.iload_n 1, 1) := by decide +kernel
theorem dX3_hasKnifeAt_14 : decode cX3_hasKnifeAt 14 = .ok (.if_icmp .ge 18, 3) := by decide +kernel
theorem dX3_hasKnifeAt_17 : decode cX3_hasKnifeAt 17 = .ok (.iload_n 2, 1) := by decide +kernel
theorem dX3_hasKnifeAt_18 : decode cX3_hasKnifeAt 18 = .ok (.aload_n 0, 1) := by decide +kernel
theorem dX3_hasKnifeAt_19 : decode cX3_hasKnifeAt 19 = .ok (.getfield 9, 3) := by decide +kernel
theorem dX3_hasKnifeAt_22 : decode cX3_hasKnifeAt 22 = .ok (.iload_n 3, 1) := by decide +kernel
theorem dX3_hasKnifeAt_23 : decode cX3_hasKnifeAt 23 = .ok (.iaload, 1) := by decide +kernel
theorem dX3_hasKnifeAt_24 : decode cX3_hasKnifeAt 24 = .ok (.iadd, 1) := by decide +kernel
theorem dX3_hasKnifeAt_25 : decode cX3_hasKnifeAt 25 = .ok (.istore_n 2, 1) := by decide +kernel
theorem dX3_hasKnifeAt_26 : decode cX3_hasKnifeAt 26 = .ok (.iinc 3 1, 3) := by decide +kernel
theorem dX3_hasKnifeAt_29 : decode cX3_hasKnifeAt 29 = .ok (.goto (-25), 3) := by decide +kernel
theorem dX3_hasKnifeAt_32 : decode cX3_hasKnifeAt 32 = .ok (.iload_n 2, 1) := by decide +kernel
theorem dX3_hasKnifeAt_33 : decode cX3_hasKnifeAt 33 = .ok (.iload_n 1, 1) := by decide +kernel
theorem dX3_hasKnifeAt_34 : decode cX3_hasKnifeAt 34 = .ok (.if_icmp .ne 7, 3) := by decide +kernel
theorem dX3_hasKnifeAt_37 : decode cX3_hasKnifeAt 37 = .ok (.iconst 1, 1) := by decide +kernel
theorem dX3_hasKnifeAt_38 : decode cX3_hasKnifeAt 38 = .ok (.goto 4, 3) := by decide +kernel
theorem dX3_hasKnifeAt_41 : decode cX3_hasKnifeAt 41 = .ok (.iconst 0, 1) := by decide +kernel
theorem dX3_hasKnifeAt_42 : decode cX3_hasKnifeAt 42 = .ok (.ireturn, 1) := by decide +kernel
theorem dX4_init_0 : decode cX4_init 0 = .ok (.aload_n 0, 1) := by decide +kernel
theorem dX4_init_1 : decode cX4_init 1 = .ok (.invokespecial 3, 3) := by decide +kernel
theorem dX4_init_4 : decode cX4_init 4 = .ok (.aload_n 0, 1) := by decide +kernel
theorem dX4_init_5 : decode cX4_init 5 = .ok (.bipush 8, 2) := by decide +kernel
theorem dX4_init_7 : decode cX4_init 7 = .ok (.bipush 7, 2) := by decide +kernel
theorem dX4_init_9 : decode cX4_init 9 = .ok (.multianewarray 9 2, 4) := by decide +kernel
theorem dX4_init_13 : decode cX4_init 13 = .ok (.putfield 11, 3) := by decide +kernel
theorem dX4_init_16 : decode cX4_init 16 = .ok (.aload_n 0, 1) := by decide +kernel
theorem dX4_init_17 : decode cX4_init 17 = .ok (.bipush 8, 2) := by decide +kernel
theorem dX4_init_19 : decode cX4_init 19 = .ok (.sipush 128, 3) := by decide +kernel
theorem dX4_init_22 : decode cX4_init 22 = .ok (.multianewarray 9 2, 4) := by decide +kernel
theorem dX4_init_26 : decode cX4_init 26 = .ok (.putfield 16, 3) := by decide +kernel
theorem dX4_init_29 : decode cX4_init 29 = .ok (.aload_n 0, 1) := by decide +kernel
theorem dX4_init_30 : decode cX4_init 30 = .ok (.bipush 7, 2) := by decide +kernel
theorem dX4_init_32 : decode cX4_init 32 = .ok (.newarray .int, 2) := by decide +kernel
theorem dX4_init_34 : decode cX4_init 34 = .ok (.putfield 19, 3) := by decide +kernel
theorem dX4_init_37 : decode cX4_init 37 = .ok (.return_, 1) := by decide +kernel
theorem dX4_fewestBySets_0 : decode cX4_fewestBySets 0 = .ok (.iconst 1, 1) := by decide +kernel
theorem dX4_fewestBySets_1 : decode cX4_fewestBySets 1 = .ok (.iload_n 1, 1) := by decide +kernel
theorem dX4_fewestBySets_2 : decode cX4_fewestBySets 2 = .ok (.ishl, 1) := by decide +kernel
theorem dX4_fewestBySets_3 : decode cX4_fewestBySets 3 = .ok (.iconst 1, 1) := by decide +kernel
theorem dX4_fewestBySets_4 : decode cX4_fewestBySets 4 = .ok (.isub, 1) := by decide +kernel
theorem dX4_fewestBySets_5 : decode cX4_fewestBySets 5 = .ok (.istore_n 2, 1) := by decide +kernel
theorem dX4_fewestBySets_6 : decode cX4_fewestBySets 6 = .ok (.iconst 1, 1) := by decide +kernel
theorem dX4_fewestBySets_7 : decode cX4_fewestBySets 7 = .ok (.istore_n 3, 1) := by decide +kernel
theorem dX4_fewestBySets_8 : decode cX4_fewestBySets 8 = .ok (.iload_n 3, 1) := by decide +kernel
theorem dX4_fewestBySets_9 : decode cX4_fewestBySets 9 = .ok (.iload_n 2, 1) := by decide +kernel
theorem dX4_fewestBySets_10 : decode cX4_fewestBySets 10 = .ok (.if_icmp .gt 42, 3) := by decide +kernel
theorem dX4_fewestBySets_13 : decode cX4_fewestBySets 13 = .ok (.iconst 0, 1) := by decide +kernel
theorem dX4_fewestBySets_14 : decode cX4_fewestBySets 14 = .ok (.istore 4, 2) := by decide +kernel
theorem dX4_fewestBySets_16 : decode cX4_fewestBySets 16 = .ok (.iload 4, 2) := by decide +kernel
theorem dX4_fewestBySets_18 : decode cX4_fewestBySets 18 = .ok (.bipush 7, 2) := by decide +kernel
theorem dX4_fewestBySets_20 : decode cX4_fewestBySets 20 = .ok (.if_icmp .gt 26, 3) := by decide +kernel
theorem dX4_fewestBySets_23 : decode cX4_fewestBySets 23 = .ok (.aload_n 0, 1) := by decide +kernel
theorem dX4_fewestBySets_24 : decode cX4_fewestBySets 24 = .ok (.getfield 16, 3) := by decide +kernel
theorem dX4_fewestBySets_27 : decode cX4_fewestBySets 27 = .ok (.iload 4, 2) := by decide +kernel
theorem dX4_fewestBySets_29 : decode cX4_fewestBySets 29 = .ok (.aaload, 1) := by decide +kernel
theorem dX4_fewestBySets_30 : decode cX4_fewestBySets 30 = .ok (.iload_n 3, 1) := by decide +kernel
theorem dX4_fewestBySets_31 : decode cX4_fewestBySets 31 = .ok (.aload_n 0, 1) := by decide +kernel
theorem dX4_fewestBySets_32 : decode cX4_fewestBySets 32 = .ok (.iload 4, 2) := by decide +kernel
theorem dX4_fewestBySets_34 : decode cX4_fewestBySets 34 = .ok (.iload_n 3, 1) := by decide +kernel
theorem dX4_fewestBySets_35 : decode cX4_fewestBySets 35 = .ok (.iload_n 1, 1) := by decide +kernel
theorem dX4_fewestBySets_36 : decode cX4_fewestBySets 36 = .ok (.invokevirtual 23, 3) := by decide +kernel
theorem dX4_fewestBySets_39 : decode cX4_fewestBySets 39 = .ok (.iastore, 1) := by decide +kernel
theorem dX4_fewestBySets_40 : decode cX4_fewestBySets 40 = .ok (.iinc 4 1, 3) := by decide +kernel
theorem dX4_fewestBySets_43 : decode cX4_fewestBySets 43 = .ok (.goto (-27), 3) := by decide +kernel
theorem dX4_fewestBySets_46 : decode cX4_fewestBySets 46 = .ok (.iinc 3 1, 3) := by decide +kernel
theorem dX4_fewestBySets_49 : decode cX4_fewestBySets 49 = .ok (.goto (-41), 3) := by decide +kernel
theorem dX4_fewestBySets_52 : decode cX4_fewestBySets 52 = .ok (.aload_n 0, 1) := by decide +kernel
theorem dX4_fewestBySets_53 : decode cX4_fewestBySets 53 = .ok (.getfield 16, 3) := by decide +kernel
theorem dX4_fewestBySets_56 : decode cX4_fewestBySets 56 = .ok (.bipush 7, 2) := by decide +kernel
theorem dX4_fewestBySets_58 : decode cX4_fewestBySets 58 = .ok (.aaload, 1) := by decide +kernel
theorem dX4_fewestBySets_59 : decode cX4_fewestBySets 59 = .ok (.iload_n 2, 1) := by decide +kernel
theorem dX4_fewestBySets_60 : decode cX4_fewestBySets 60 = .ok (.iaload, 1) := by decide +kernel
theorem dX4_fewestBySets_61 : decode cX4_fewestBySets 61 = .ok (.ireturn, 1) := by decide +kernel
theorem dX4_fewestAfter_0 : decode cX4_fewestAfter 0 = .ok (.sipush 128, 3) := by decide +kernel
theorem dX4_fewestAfter_3 : decode cX4_fewestAfter 3 = .ok (.istore 4, 2) := by decide +kernel
theorem dX4_fewestAfter_5 : decode cX4_fewestAfter 5 = .ok (.iconst 0, 1) := by decide +kernel
theorem dX4_fewestAfter_6 : decode cX4_fewestAfter 6 = .ok (.istore 5, 2) := by decide +kernel
theorem dX4_fewestAfter_8 : decode cX4_fewestAfter 8 = .ok (.iload 5, 2) := by decide +kernel
theorem dX4_fewestAfter_10 : decode cX4_fewestAfter 10 = .ok (.iload_n 3, 1) := by decide +kernel
theorem dX4_fewestAfter_11 : decode cX4_fewestAfter 11 = .ok (.if_icmp .ge 33, 3) := by decide +kernel
theorem dX4_fewestAfter_14 : decode cX4_fewestAfter 14 = .ok (.iload_n 2, 1) := by decide +kernel
theorem dX4_fewestAfter_15 : decode cX4_fewestAfter 15 = .ok (.iload 5, 2) := by decide +kernel
theorem dX4_fewestAfter_17 : decode cX4_fewestAfter 17 = .ok (.invokestatic 27, 3) := by decide +kernel
theorem dX4_fewestAfter_20 : decode cX4_fewestAfter 20 = .ok (.ifCond .eq 18, 3) := by decide +kernel
theorem dX4_fewestAfter_23 : decode cX4_fewestAfter 23 = .ok (.iload 4, 2) := by decide +kernel
theorem dX4_fewestAfter_25 : decode cX4_fewestAfter 25 = .ok (.aload_n 0, 1) := by decide +kernel
theorem dX4_fewestAfter_26 : decode cX4_fewestAfter 26 = .ok (.iload_n 1, 1) := by decide +kernel
theorem dX4_fewestAfter_27 : decode cX4_fewestAfter 27 = .ok (.iload 5, 2) := by decide +kernel
theorem dX4_fewestAfter_29 : decode cX4_fewestAfter 29 = .ok (.iload_n 2, 1) := by decide +kernel
theorem dX4_fewestAfter_30 : decode cX4_fewestAfter 30 = .ok (.invokevirtual 31, 3) := by decide +kernel
theorem dX4_fewestAfter_33 : decode cX4_fewestAfter 33 = .ok (.invokestatic 34, 3) := by decide +kernel
theorem dX4_fewestAfter_36 : decode cX4_fewestAfter 36 = .ok (.istore 4, 2) := by decide +kernel
theorem dX4_fewestAfter_38 : decode cX4_fewestAfter 38 = .ok (.iinc 5 1, 3) := by decide +kernel
theorem dX4_fewestAfter_41 : decode cX4_fewestAfter 41 = .ok (.goto (-33), 3) := by decide +kernel
theorem dX4_fewestAfter_44 : decode cX4_fewestAfter 44 = .ok (.iload 4, 2) := by decide +kernel
theorem dX4_fewestAfter_46 : decode cX4_fewestAfter 46 = .ok (.ireturn, 1) := by decide +kernel
theorem dX4_movesThrough_0 : decode cX4_movesThrough 0 = .ok (.aload_n 0, 1) := by decide +kernel
theorem dX4_movesThrough_1 : decode cX4_movesThrough 1 = .ok (.getfield 11, 3) := by decide +kernel
theorem dX4_movesThrough_4 : decode cX4_movesThrough 4 = .ok (.iload_n 1, 1) := by decide +kernel
theorem dX4_movesThrough_5 : decode cX4_movesThrough 5 = .ok (.aaload, 1) := by decide +kernel
theorem dX4_movesThrough_6 : decode cX4_movesThrough 6 = .ok (.iload_n 2, 1) := by decide +kernel
theorem dX4_movesThrough_7 : decode cX4_movesThrough 7 = .ok (.iaload, 1) := by decide +kernel
theorem dX4_movesThrough_8 : decode cX4_movesThrough 8 = .ok (.aload_n 0, 1) := by decide +kernel
theorem dX4_movesThrough_9 : decode cX4_movesThrough 9 = .ok (.getfield 16, 3) := by decide +kernel
theorem dX4_movesThrough_12 : decode cX4_movesThrough 12 = .ok (.iload_n 2, 1) := by decide +kernel
theorem dX4_movesThrough_13 : decode cX4_movesThrough 13 = .ok (.aaload, 1) := by decide +kernel
theorem dX4_movesThrough_14 : decode cX4_movesThrough 14 = .ok (.iload_n 3, 1) := by decide +kernel
theorem dX4_movesThrough_15 : decode cX4_movesThrough 15 = .ok (.iload_n 2, 1) := by decide +kernel
theorem dX4_movesThrough_16 : decode cX4_movesThrough 16 = .ok (.invokestatic 40, 3) := by decide +kernel
theorem dX4_movesThrough_19 : decode cX4_movesThrough 19 = .ok (.iaload, 1) := by decide +kernel
theorem dX4_movesThrough_20 : decode cX4_movesThrough 20 = .ok (.iadd, 1) := by decide +kernel
theorem dX4_movesThrough_21 : decode cX4_movesThrough 21 = .ok (.ireturn, 1) := by decide +kernel
theorem dX4_findBest_0 : decode cX4_findBest 0 = .ok (.aload_n 0, 1) := by decide +kernel
theorem dX4_findBest_1 : decode cX4_findBest 1 = .ok (.iload_n 1, 1) := by decide +kernel
theorem dX4_findBest_2 : decode cX4_findBest 2 = .ok (.invokevirtual 43, 3) := by decide +kernel
theorem dX4_findBest_5 : decode cX4_findBest 5 = .ok (.pop, 1) := by decide +kernel
theorem dX4_findBest_6 : decode cX4_findBest 6 = .ok (.bipush 7, 2) := by decide +kernel
theorem dX4_findBest_8 : decode cX4_findBest 8 = .ok (.istore_n 2, 1) := by decide +kernel
theorem dX4_findBest_9 : decode cX4_findBest 9 = .ok (.iconst 1, 1) := by decide +kernel
theorem dX4_findBest_10 : decode cX4_findBest 10 = .ok (.iload_n 1, 1) := by decide +kernel
theorem dX4_findBest_11 : decode cX4_findBest 11 = .ok (.ishl, 1) := by decide +kernel
theorem dX4_findBest_12 : decode cX4_findBest 12 = .ok (.iconst 1, 1) := by decide +kernel
theorem dX4_findBest_13 : decode cX4_findBest 13 = .ok (.isub, 1) := by decide +kernel
theorem dX4_findBest_14 : decode cX4_findBest 14 = .ok (.istore_n 3, 1) := by decide +kernel
theorem dX4_findBest_15 : decode cX4_findBest 15 = .ok (.iconst 0, 1) := by decide +kernel
theorem dX4_findBest_16 : decode cX4_findBest 16 = .ok (.istore 4, 2) := by decide +kernel
theorem dX4_findBest_18 : decode cX4_findBest 18 = .ok (.iload 4, 2) := by decide +kernel
theorem dX4_findBest_20 : decode cX4_findBest 20 = .ok (.iload_n 1, 1) := by decide +kernel
theorem dX4_findBest_21 : decode cX4_findBest 21 = .ok (.if_icmp .ge 37, 3) := by decide +kernel
theorem dX4_findBest_24 : decode cX4_findBest 24 = .ok (.aload_n 0, 1) := by decide +kernel
theorem dX4_findBest_25 : decode cX4_findBest 25 = .ok (.iload_n 2, 1) := by decide +kernel
theorem dX4_findBest_26 : decode cX4_findBest 26 = .ok (.iload_n 3, 1) := by decide +kernel
theorem dX4_findBest_27 : decode cX4_findBest 27 = .ok (.iload_n 1, 1) := by decide +kernel
theorem dX4_findBest_28 : decode cX4_findBest 28 = .ok (.invokevirtual 47, 3) := by decide +kernel
theorem dX4_findBest_31 : decode cX4_findBest 31 = .ok (.istore 5, 2) := by decide +kernel
theorem dX4_findBest_33 : decode cX4_findBest 33 = .ok (.aload_n 0, 1) := by decide +kernel
theorem dX4_findBest_34 : decode cX4_findBest 34 = .ok (.getfield 19, 3) := by decide +kernel
theorem dX4_findBest_37 : decode cX4_findBest 37 = .ok (.iload 4, 2) := by decide +kernel
theorem dX4_findBest_39 : decode cX4_findBest 39 = .ok (.iload 5, 2) := by decide +kernel
theorem dX4_findBest_41 : decode cX4_findBest 41 = .ok (.iastore, 1) := by decide +kernel
theorem dX4_findBest_42 : decode cX4_findBest 42 = .ok (.iload_n 3, 1) := by decide +kernel
theorem dX4_findBest_43 : decode cX4_findBest 43 = .ok (.iload 5, 2) := by decide +kernel
theorem dX4_findBest_45 : decode cX4_findBest 45 = .ok (.invokestatic 40, 3) := by decide +kernel
theorem dX4_findBest_48 : decode cX4_findBest 48 = .ok (.istore_n 3, 1) := by decide +kernel
theorem dX4_findBest_49 : decode cX4_findBest 49 = .ok (.iload 5, 2) := by decide +kernel
theorem dX4_findBest_51 : decode cX4_findBest 51 = .ok (.istore_n 2, 1) := by decide +kernel
theorem dX4_findBest_52 : decode cX4_findBest 52 = .ok (.iinc 4 1, 3) := by decide +kernel
theorem dX4_findBest_55 : decode cX4_findBest 55 = .ok (.goto (-37), 3) := by decide +kernel
theorem dX4_findBest_58 : decode cX4_findBest 58 = .ok (.return_, 1) := by decide +kernel
theorem dX4_leastNext_0 : decode cX4_leastNext 0 = .ok (.iconst 0, 1) := by decide +kernel
theorem dX4_leastNext_1 : decode cX4_leastNext 1 = .ok (.istore 4, 2) := by decide +kernel
theorem dX4_leastNext_3 : decode cX4_leastNext 3 = .ok (.iload 4, 2) := by decide +kernel
theorem dX4_leastNext_5 : decode cX4_leastNext 5 = .ok (.iload_n 3, 1) := by decide +kernel
theorem dX4_leastNext_6 : decode cX4_leastNext 6 = .ok (.if_icmp .ge 40, 3) := by decide +kernel
theorem dX4_leastNext_9 : decode cX4_leastNext 9 = .ok (.iload_n 2, 1) := by decide +kernel
theorem dX4_leastNext_10 : decode cX4_leastNext 10 = .ok (.iload 4, 2) := by decide +kernel
theorem dX4_leastNext_12 : decode cX4_leastNext 12 = .ok (.invokestatic 27, 3) := by decide +kernel
theorem dX4_leastNext_15 : decode cX4_leastNext 15 = .ok (.ifCond .eq 25, 3) := by decide +kernel
theorem dX4_leastNext_18 : decode cX4_leastNext 18 = .ok (.aload_n 0, 1) := by decide +kernel
theorem dX4_leastNext_19 : decode cX4_leastNext 19 = .ok (.iload_n 1, 1) := by decide +kernel
theorem dX4_leastNext_20 : decode cX4_leastNext 20 = .ok (.iload 4, 2) := by decide +kernel
theorem dX4_leastNext_22 : decode cX4_leastNext 22 = .ok (.iload_n 2, 1) := by decide +kernel
theorem dX4_leastNext_23 : decode cX4_leastNext 23 = .ok (.invokevirtual 31, 3) := by decide +kernel
theorem dX4_leastNext_26 : decode cX4_leastNext 26 = .ok (.aload_n 0, 1) := by decide +kernel
theorem dX4_leastNext_27 : decode cX4_leastNext 27 = .ok (.getfield 16, 3) := by decide +kernel
theorem dX4_leastNext_30 : decode cX4_leastNext 30 = .ok (.iload_n 1, 1) := by decide +kernel
theorem dX4_leastNext_31 : decode cX4_leastNext 31 = .ok (.aaload, 1) := by decide +kernel
theorem dX4_leastNext_32 : decode cX4_leastNext 32 = .ok (.iload_n 2, 1) := by decide +kernel
theorem dX4_leastNext_33 : decode cX4_leastNext 33 = .ok (.iaload, 1) := by decide +kernel
theorem dX4_leastNext_34 : decode cX4_leastNext 34 = .ok (.if_icmp .ne 6, 3) := by decide +kernel
theorem dX4_leastNext_37 : decode cX4_leastNext 37 = .ok (.iload 4, 2) := by decide +kernel
theorem dX4_leastNext_39 : decode cX4_leastNext 39 = .ok (.ireturn, 1) := by decide +kernel
theorem dX4_leastNext_40 : decode cX4_leastNext 40 = .ok (.iinc 4 1, 3) := by decide +kernel
theorem dX4_leastNext_43 : decode cX4_leastNext 43 = .ok (.goto (-40), 3) := by decide +kernel
theorem dX4_leastNext_46 : decode cX4_leastNext 46 = .ok (.iconst 0, 1) := by decide +kernel
theorem dX4_leastNext_47 : decode cX4_leastNext 47 = .ok (.ireturn, 1) := by decide +kernel
theorem dX4_fewestByOrders_0 : decode cX4_fewestByOrders 0 = .ok (.aload_n 0, 1) := by decide +kernel
theorem dX4_fewestByOrders_1 : decode cX4_fewestByOrders 1 = .ok (.getfield 11, 3) := by decide +kernel
theorem dX4_fewestByOrders_4 : decode cX4_fewestByOrders 4 = .ok (.iload_n 1, 1) := by decide +kernel
theorem dX4_fewestByOrders_5 : decode cX4_fewestByOrders 5 = .ok (.bipush 7, 2) := by decide +kernel
theorem dX4_fewestByOrders_7 : decode cX4_fewestByOrders 7 = .ok (.iconst 1, 1) := by decide +kernel
theorem dX4_fewestByOrders_8 : decode cX4_fewestByOrders 8 = .ok (.iload_n 1, 1) := by decide +kernel
theorem dX4_fewestByOrders_9 : decode cX4_fewestByOrders 9 = .ok (.ishl, 1) := by decide +kernel
theorem dX4_fewestByOrders_10 : decode cX4_fewestByOrders 10 = .ok (.iconst 1, 1) := by decide +kernel
theorem dX4_fewestByOrders_11 : decode cX4_fewestByOrders 11 = .ok (.isub, 1) := by decide +kernel
theorem dX4_fewestByOrders_12 : decode cX4_fewestByOrders 12 = .ok (.iload_n 1, 1) := by decide +kernel
theorem dX4_fewestByOrders_13 : decode cX4_fewestByOrders 13 = .ok (.invokestatic 50, 3) := by decide +kernel
theorem dX4_fewestByOrders_16 : decode cX4_fewestByOrders 16 = .ok (.ireturn, 1) := by decide +kernel
theorem dX4_tryOrders_0 : decode cX4_tryOrders 0 = .ok (.iload 4, 2) := by decide +kernel
theorem dX4_tryOrders_2 : decode cX4_tryOrders 2 = .ok (.ifCond .gt 5, 3) := by decide +kernel
theorem dX4_tryOrders_5 : decode cX4_tryOrders 5 = .ok (.iconst 0, 1) := by decide +kernel
theorem dX4_tryOrders_6 : decode cX4_tryOrders 6 = .ok (.ireturn, 1) := by decide +kernel
theorem dX4_tryOrders_7 : decode cX4_tryOrders 7 = .ok (.sipush 128, 3) := by decide +kernel
theorem dX4_tryOrders_10 : decode cX4_tryOrders 10 = .ok (.istore 5, 2) := by decide +kernel
theorem dX4_tryOrders_12 : decode cX4_tryOrders 12 = .ok (.iconst 0, 1) := by decide +kernel
theorem dX4_tryOrders_13 : decode cX4_tryOrders 13 = .ok (.istore 6, 2) := by decide +kernel
theorem dX4_tryOrders_15 : decode cX4_tryOrders 15 = .ok (.iload 6, 2) := by decide +kernel
theorem dX4_tryOrders_17 : decode cX4_tryOrders 17 = .ok (.iload_n 1, 1) := by decide +kernel
theorem dX4_tryOrders_18 : decode cX4_tryOrders 18 = .ok (.if_icmp .ge 53, 3) := by decide +kernel
theorem dX4_tryOrders_21 : decode cX4_tryOrders 21 = .ok (.iload_n 3, 1) := by decide +kernel
theorem dX4_tryOrders_22 : decode cX4_tryOrders 22 = .ok (.iload 6, 2) := by decide +kernel
theorem dX4_tryOrders_24 : decode cX4_tryOrders 24 = .ok (.invokestatic 27, 3) := by decide +kernel
theorem dX4_tryOrders_27 : decode cX4_tryOrders 27 = .ok (.ifCond .eq 38, 3) := by decide +kernel
theorem dX4_tryOrders_30 : decode cX4_tryOrders 30 = .ok (.aload_n 0, 1) := by decide +kernel
theorem dX4_tryOrders_31 : decode cX4_tryOrders 31 = .ok (.iload_n 1, 1) := by decide +kernel
theorem dX4_tryOrders_32 : decode cX4_tryOrders 32 = .ok (.iload 6, 2) := by decide +kernel
theorem dX4_tryOrders_34 : decode cX4_tryOrders 34 = .ok (.iload_n 3, 1) := by decide +kernel
theorem dX4_tryOrders_35 : decode cX4_tryOrders 35 = .ok (.iload 6, 2) := by decide +kernel
theorem dX4_tryOrders_37 : decode cX4_tryOrders 37 = .ok (.invokestatic 40, 3) := by decide +kernel
theorem dX4_tryOrders_40 : decode cX4_tryOrders 40 = .ok (.iload 4, 2) := by decide +kernel
theorem dX4_tryOrders_42 : decode cX4_tryOrders 42 = .ok (.iconst 1, 1) := by decide +kernel
theorem dX4_tryOrders_43 : decode cX4_tryOrders 43 = .ok (.isub, 1) := by decide +kernel
theorem dX4_tryOrders_44 : decode cX4_tryOrders 44 = .ok (.invokestatic 50, 3) := by decide +kernel
theorem dX4_tryOrders_47 : decode cX4_tryOrders 47 = .ok (.istore 7, 2) := by decide +kernel
theorem dX4_tryOrders_49 : decode cX4_tryOrders 49 = .ok (.iload 5, 2) := by decide +kernel
theorem dX4_tryOrders_51 : decode cX4_tryOrders 51 = .ok (.aload_n 0, 1) := by decide +kernel
theorem dX4_tryOrders_52 : decode cX4_tryOrders 52 = .ok (.iload_n 2, 1) := by decide +kernel
theorem dX4_tryOrders_53 : decode cX4_tryOrders 53 = .ok (.aaload, 1) := by decide +kernel
theorem dX4_tryOrders_54 : decode cX4_tryOrders 54 = .ok (.iload 6, 2) := by decide +kernel
theorem dX4_tryOrders_56 : decode cX4_tryOrders 56 = .ok (.iaload, 1) := by decide +kernel
theorem dX4_tryOrders_57 : decode cX4_tryOrders 57 = .ok (.iload 7, 2) := by decide +kernel
theorem dX4_tryOrders_59 : decode cX4_tryOrders 59 = .ok (.iadd, 1) := by decide +kernel
theorem dX4_tryOrders_60 : decode cX4_tryOrders 60 = .ok (.invokestatic 34, 3) := by decide +kernel
theorem dX4_tryOrders_63 : decode cX4_tryOrders 63 = .ok (.istore 5, 2) := by decide +kernel
theorem dX4_tryOrders_65 : decode cX4_tryOrders 65 = .ok (.iinc 6 1, 3) := by decide +kernel
theorem dX4_tryOrders_68 : decode cX4_tryOrders 68 = .ok (.goto (-53), 3) := by decide +kernel
theorem dX4_tryOrders_71 : decode cX4_tryOrders 71 = .ok (.iload 5, 2) := by decide +kernel
theorem dX4_tryOrders_73 : decode cX4_tryOrders 73 = .ok (.ireturn, 1) := by decide +kernel
theorem dX4_holds_0 : decode cX4_holds 0 = .ok (.iload_n 0, 1) := by decide +kernel
theorem dX4_holds_1 : decode cX4_holds 1 = .ok (.iload_n 1, 1) := by decide +kernel
theorem dX4_holds_2 : decode cX4_holds 2 = .ok (.ishr, 1) := by decide +kernel
theorem dX4_holds_3 : decode cX4_holds 3 = .ok (.iconst 1, 1) := by decide +kernel
theorem dX4_holds_4 : decode cX4_holds 4 = .ok (.iand, 1) := by decide +kernel
theorem dX4_holds_5 : decode cX4_holds 5 = .ok (.iconst 1, 1) := by decide +kernel
theorem dX4_holds_6 : decode cX4_holds 6 = .ok (.if_icmp .ne 7, 3) := by decide +kernel
theorem dX4_holds_9 : decode cX4_holds 9 = .ok (.iconst 1, 1) := by decide +kernel
theorem dX4_holds_10 : decode cX4_holds 10 = .ok (.goto 4, 3) := by decide +kernel
theorem dX4_holds_13 : decode cX4_holds 13 = .ok (.iconst 0, 1) := by decide +kernel
theorem dX4_holds_14 : decode cX4_holds 14 = .ok (.ireturn, 1) := by decide +kernel
theorem dX4_without_0 : decode cX4_without 0 = .ok (.iload_n 0, 1) := by decide +kernel
theorem dX4_without_1 : decode cX4_without 1 = .ok (.iconst 1, 1) := by decide +kernel
theorem dX4_without_2 : decode cX4_without 2 = .ok (.iload_n 1, 1) := by decide +kernel
theorem dX4_without_3 : decode cX4_without 3 = .ok (.ishl, 1) := by decide +kernel
theorem dX4_without_4 : decode cX4_without 4 = .ok (.iconst (-1), 1) := by decide +kernel
theorem dX4_without_5 : decode cX4_without 5 = .ok (.ixor, 1) := by decide +kernel
theorem dX4_without_6 : decode cX4_without 6 = .ok (.iand, 1) := by decide +kernel
theorem dX4_without_7 : decode cX4_without 7 = .ok (.ireturn, 1) := by decide +kernel
theorem dX5_init_0 : decode cX5_init 0 = .ok (.aload_n 0, 1) := by decide +kernel
theorem dX5_init_1 : decode cX5_init 1 = .ok (.invokespecial 1, 3) := by decide +kernel
theorem dX5_init_4 : decode cX5_init 4 = .ok (.aload_n 0, 1) := by decide +kernel
theorem dX5_init_5 : decode cX5_init 5 = .ok (.bipush 20, 2) := by decide +kernel
theorem dX5_init_7 : decode cX5_init 7 = .ok (.anewarray 9, 3) := by decide +kernel
theorem dX5_init_10 : decode cX5_init 10 = .ok (.putfield 11, 3) := by decide +kernel
theorem dX5_init_13 : decode cX5_init 13 = .ok (.aload_n 0, 1) := by decide +kernel
theorem dX5_init_14 : decode cX5_init 14 = .ok (.iconst 0, 1) := by decide +kernel
theorem dX5_init_15 : decode cX5_init 15 = .ok (.putfield 15, 3) := by decide +kernel
theorem dX5_init_18 : decode cX5_init 18 = .ok (.aload_n 0, 1) := by decide +kernel
theorem dX5_init_19 : decode cX5_init 19 = .ok (.bipush 12, 2) := by decide +kernel
theorem dX5_init_21 : decode cX5_init 21 = .ok (.anewarray 19, 3) := by decide +kernel
theorem dX5_init_24 : decode cX5_init 24 = .ok (.putfield 21, 3) := by decide +kernel
theorem dX5_init_27 : decode cX5_init 27 = .ok (.aload_n 0, 1) := by decide +kernel
theorem dX5_init_28 : decode cX5_init 28 = .ok (.iconst 0, 1) := by decide +kernel
theorem dX5_init_29 : decode cX5_init 29 = .ok (.putfield 25, 3) := by decide +kernel
theorem dX5_init_32 : decode cX5_init 32 = .ok (.aload_n 0, 1) := by decide +kernel
theorem dX5_init_33 : decode cX5_init 33 = .ok (.bipush 10, 2) := by decide +kernel
theorem dX5_init_35 : decode cX5_init 35 = .ok (.anewarray 28, 3) := by decide +kernel
theorem dX5_init_38 : decode cX5_init 38 = .ok (.putfield 30, 3) := by decide +kernel
theorem dX5_init_41 : decode cX5_init 41 = .ok (.aload_n 0, 1) := by decide +kernel
theorem dX5_init_42 : decode cX5_init 42 = .ok (.iconst 0, 1) := by decide +kernel
theorem dX5_init_43 : decode cX5_init 43 = .ok (.putfield 34, 3) := by decide +kernel
theorem dX5_init_46 : decode cX5_init 46 = .ok (.aload_n 0, 1) := by decide +kernel
theorem dX5_init_47 : decode cX5_init 47 = .ok (.new 28, 3) := by decide +kernel
theorem dX5_init_50 : decode cX5_init 50 = .ok (.dup, 1) := by decide +kernel
theorem dX5_init_51 : decode cX5_init 51 = .ok (.invokespecial 37, 3) := by decide +kernel
theorem dX5_init_54 : decode cX5_init 54 = .ok (.putfield 38, 3) := by decide +kernel
theorem dX5_init_57 : decode cX5_init 57 = .ok (.aload_n 0, 1) := by decide +kernel
theorem dX5_init_58 : decode cX5_init 58 = .ok (.bipush 10, 2) := by decide +kernel
theorem dX5_init_60 : decode cX5_init 60 = .ok (.putfield 42, 3) := by decide +kernel
theorem dX5_init_63 : decode cX5_init 63 = .ok (.aload_n 0, 1) := by decide +kernel
theorem dX5_init_64 : decode cX5_init 64 = .ok (.bipush 20, 2) := by decide +kernel
theorem dX5_init_66 : decode cX5_init 66 = .ok (.putfield 45, 3) := by decide +kernel
theorem dX5_init_69 : decode cX5_init 69 = .ok (.aload_n 0, 1) := by decide +kernel
theorem dX5_init_70 : decode cX5_init 70 = .ok (.bipush 8, 2) := by decide +kernel
theorem dX5_init_72 : decode cX5_init 72 = .ok (.putfield 48, 3) := by decide +kernel
theorem dX5_init_75 : decode cX5_init 75 = .ok (.aload_n 0, 1) := by decide +kernel
theorem dX5_init_76 : decode cX5_init 76 = .ok (.iconst (-1), 1) := by decide +kernel
theorem dX5_init_77 : decode cX5_init 77 = .ok (.putfield 51, 3) := by decide +kernel
theorem dX5_init_80 : decode cX5_init 80 = .ok (.aload_n 0, 1) := by decide +kernel
theorem dX5_init_81 : decode cX5_init 81 = .ok (.iconst 0, 1) := by decide +kernel
theorem dX5_init_82 : decode cX5_init 82 = .ok (.putfield 54, 3) := by decide +kernel
theorem dX5_init_85 : decode cX5_init 85 = .ok (.aload_n 0, 1) := by decide +kernel
theorem dX5_init_86 : decode cX5_init 86 = .ok (.bipush 7, 2) := by decide +kernel
theorem dX5_init_88 : decode cX5_init 88 = .ok (.newarray .int, 2) := by decide +kernel
theorem dX5_init_90 : decode cX5_init 90 = .ok (.putfield 57, 3) := by decide +kernel
theorem dX5_init_93 : decode cX5_init 93 = .ok (.aload_n 0, 1) := by decide +kernel
theorem dX5_init_94 : decode cX5_init 94 = .ok (.bipush 7, 2) := by decide +kernel
theorem dX5_init_96 : decode cX5_init 96 = .ok (.newarray .int, 2) := by decide +kernel
theorem dX5_init_98 : decode cX5_init 98 = .ok (.putfield 61, 3) := by decide +kernel
theorem dX5_init_101 : decode cX5_init 101 = .ok (.aload_n 0, 1) := by decide +kernel
theorem dX5_init_102 : decode cX5_init 102 = .ok (.iconst 0, 1) := by decide +kernel
theorem dX5_init_103 : decode cX5_init 103 = .ok (.putfield 64, 3) := by decide +kernel
theorem dX5_init_106 : decode cX5_init 106 = .ok (.aload_n 0, 1) := by decide +kernel
theorem dX5_init_107 : decode cX5_init 107 = .ok (.new 67, 3) := by decide +kernel
theorem dX5_init_110 : decode cX5_init 110 = .ok (.dup, 1) := by decide +kernel
theorem dX5_init_111 : decode cX5_init 111 = .ok (.invokespecial 69, 3) := by decide +kernel
theorem dX5_init_114 : decode cX5_init 114 = .ok (.putfield 70, 3) := by decide +kernel
theorem dX5_init_117 : decode cX5_init 117 = .ok (.aload_n 0, 1) := by decide +kernel
theorem dX5_init_118 : decode cX5_init 118 = .ok (.new 74, 3) := by decide +kernel
theorem dX5_init_121 : decode cX5_init 121 = .ok (.dup, 1) := by decide +kernel
theorem dX5_init_122 : decode cX5_init 122 = .ok (.invokespecial 76, 3) := by decide +kernel
theorem dX5_init_125 : decode cX5_init 125 = .ok (.putfield 77, 3) := by decide +kernel
theorem dX5_init_128 : decode cX5_init 128 = .ok (.iconst 0, 1) := by decide +kernel
theorem dX5_init_129 : decode cX5_init 129 = .ok (.istore_n 1, 1) := by decide +kernel
theorem dX5_init_130 : decode cX5_init 130 = .ok (.iload_n 1, 1) := by decide +kernel
theorem dX5_init_131 : decode cX5_init 131 = .ok (.aload_n 0, 1) := by decide +kernel
theorem dX5_init_132 : decode cX5_init 132 = .ok (.getfield 11, 3) := by decide +kernel
theorem dX5_init_135 : decode cX5_init 135 = .ok (.arraylength, 1) := by decide +kernel
theorem dX5_init_136 : decode cX5_init 136 = .ok (.if_icmp .ge 22, 3) := by decide +kernel
theorem dX5_init_139 : decode cX5_init 139 = .ok (.aload_n 0, 1) := by decide +kernel
theorem dX5_init_140 : decode cX5_init 140 = .ok (.getfield 11, 3) := by decide +kernel
theorem dX5_init_143 : decode cX5_init 143 = .ok (.iload_n 1, 1) := by decide +kernel
theorem dX5_init_144 : decode cX5_init 144 = .ok (.new 9, 3) := by decide +kernel
theorem dX5_init_147 : decode cX5_init 147 = .ok (.dup, 1) := by decide +kernel
theorem dX5_init_148 : decode cX5_init 148 = .ok (.invokespecial 81, 3) := by decide +kernel
theorem dX5_init_151 : decode cX5_init 151 = .ok (.aastore, 1) := by decide +kernel
theorem dX5_init_152 : decode cX5_init 152 = .ok (.iinc 1 1, 3) := by decide +kernel
theorem dX5_init_155 : decode cX5_init 155 = .ok (.goto (-25), 3) := by decide +kernel
theorem dX5_init_158 : decode cX5_init 158 = .ok (.iconst 0, 1) := by decide +kernel
theorem dX5_init_159 : decode cX5_init 159 = .ok (.istore_n 1, 1) := by decide +kernel
theorem dX5_init_160 : decode cX5_init 160 = .ok (.iload_n 1, 1) := by decide +kernel
theorem dX5_init_161 : decode cX5_init 161 = .ok (.aload_n 0, 1) := by decide +kernel
theorem dX5_init_162 : decode cX5_init 162 = .ok (.getfield 21, 3) := by decide +kernel
theorem dX5_init_165 : decode cX5_init 165 = .ok (.arraylength, 1) := by decide +kernel
theorem dX5_init_166 : decode cX5_init 166 = .ok (.if_icmp .ge 22, 3) := by decide +kernel
theorem dX5_init_169 : decode cX5_init 169 = .ok (.aload_n 0, 1) := by decide +kernel
theorem dX5_init_170 : decode cX5_init 170 = .ok (.getfield 21, 3) := by decide +kernel
theorem dX5_init_173 : decode cX5_init 173 = .ok (.iload_n 1, 1) := by decide +kernel
theorem dX5_init_174 : decode cX5_init 174 = .ok (.new 19, 3) := by decide +kernel
theorem dX5_init_177 : decode cX5_init 177 = .ok (.dup, 1) := by decide +kernel
theorem dX5_init_178 : decode cX5_init 178 = .ok (.invokespecial 82, 3) := by decide +kernel
theorem dX5_init_181 : decode cX5_init 181 = .ok (.aastore, 1) := by decide +kernel
theorem dX5_init_182 : decode cX5_init 182 = .ok (.iinc 1 1, 3) := by decide +kernel
theorem dX5_init_185 : decode cX5_init 185 = .ok (.goto (-25), 3) := by decide +kernel
theorem dX5_init_188 : decode cX5_init 188 = .ok (.iconst 0, 1) := by decide +kernel
theorem dX5_init_189 : decode cX5_init 189 = .ok (.istore_n 1, 1) := by decide +kernel
theorem dX5_init_190 : decode cX5_init 190 = .ok (.iload_n 1, 1) := by decide +kernel
theorem dX5_init_191 : decode cX5_init 191 = .ok (.aload_n 0, 1) := by decide +kernel
theorem dX5_init_192 : decode cX5_init 192 = .ok (.getfield 30, 3) := by decide +kernel
theorem dX5_init_195 : decode cX5_init 195 = .ok (.arraylength, 1) := by decide +kernel
theorem dX5_init_196 : decode cX5_init 196 = .ok (.if_icmp .ge 22, 3) := by decide +kernel
theorem dX5_init_199 : decode cX5_init 199 = .ok (.aload_n 0, 1) := by decide +kernel
theorem dX5_init_200 : decode cX5_init 200 = .ok (.getfield 30, 3) := by decide +kernel
theorem dX5_init_203 : decode cX5_init 203 = .ok (.iload_n 1, 1) := by decide +kernel
theorem dX5_init_204 : decode cX5_init 204 = .ok (.new 28, 3) := by decide +kernel
theorem dX5_init_207 : decode cX5_init 207 = .ok (.dup, 1) := by decide +kernel
theorem dX5_init_208 : decode cX5_init 208 = .ok (.invokespecial 37, 3) := by decide +kernel
theorem dX5_init_211 : decode cX5_init 211 = .ok (.aastore, 1) := by decide +kernel
theorem dX5_init_212 : decode cX5_init 212 = .ok (.iinc 1 1, 3) := by decide +kernel
theorem dX5_init_215 : decode cX5_init 215 = .ok (.goto (-25), 3) := by decide +kernel
theorem dX5_init_218 : decode cX5_init 218 = .ok (.return_, 1) := by decide +kernel
theorem dX5_coil_0 : decode cX5_coil 0 = .ok (.iload_n 1, 1) := by decide +kernel
theorem dX5_coil_1 : decode cX5_coil 1 = .ok (.bipush 100, 2) := by decide +kernel
theorem dX5_coil_3 : decode cX5_coil 3 = .ok (.sipush 2000, 3) := by decide +kernel
theorem dX5_coil_6 : decode cX5_coil 6 = .ok (.invokestatic 83, 3) := by decide +kernel
theorem dX5_coil_9 : decode cX5_coil 9 = .ok (.iload_n 2, 1) := by decide +kernel
theorem dX5_coil_10 : decode cX5_coil 10 = .ok (.iconst 1, 1) := by decide +kernel
theorem dX5_coil_11 : decode cX5_coil 11 = .ok (.sipush 30000, 3) := by decide +kernel
theorem dX5_coil_14 : decode cX5_coil 14 = .ok (.invokestatic 83, 3) := by decide +kernel
theorem dX5_coil_17 : decode cX5_coil 17 = .ok (.iload_n 3, 1) := by decide +kernel
theorem dX5_coil_18 : decode cX5_coil 18 = .ok (.bipush 10, 2) := by decide +kernel
theorem dX5_coil_20 : decode cX5_coil 20 = .ok (.sipush 5000, 3) := by decide +kernel
theorem dX5_coil_23 : decode cX5_coil 23 = .ok (.invokestatic 83, 3) := by decide +kernel
theorem dX5_coil_26 : decode cX5_coil 26 = .ok (.iload 4, 2) := by decide +kernel
theorem dX5_coil_28 : decode cX5_coil 28 = .ok (.iconst 1, 1) := by decide +kernel
theorem dX5_coil_29 : decode cX5_coil 29 = .ok (.bipush 99, 2) := by decide +kernel
theorem dX5_coil_31 : decode cX5_coil 31 = .ok (.invokestatic 83, 3) := by decide +kernel
theorem dX5_coil_34 : decode cX5_coil 34 = .ok (.aload_n 0, 1) := by decide +kernel
theorem dX5_coil_35 : decode cX5_coil 35 = .ok (.getfield 15, 3) := by decide +kernel
theorem dX5_coil_38 : decode cX5_coil 38 = .ok (.aload_n 0, 1) := by decide +kernel
theorem dX5_coil_39 : decode cX5_coil 39 = .ok (.getfield 11, 3) := by decide +kernel
theorem dX5_coil_42 : decode cX5_coil 42 = .ok (.arraylength, 1) := by decide +kernel
theorem dX5_coil_43 : decode cX5_coil 43 = .ok (.if_icmp .lt 13, 3) := by decide +kernel
theorem dX5_coil_46 : decode cX5_coil 46 = .ok (.new 87, 3) := by decide +kernel
theorem dX5_coil_49 : decode cX5_coil 49 = .ok (.dup, 1) := by decide +kernel
theorem dX5_coil_50 : decode cX5_coil 50 = .ok (.ldc 89, 2) := by decide +kernel
theorem dX5_coil_52 : decode cX5_coil 52 = .ok (.invokespecial 91, 3) := by decide +kernel
theorem dX5_coil_55 : decode cX5_coil 55 = .ok (.athrow, 1) := by decide +kernel
theorem dX5_coil_56 : decode cX5_coil 56 = .ok (.aload_n 0, 1) := by decide +kernel
theorem dX5_coil_57 : decode cX5_coil 57 = .ok (.getfield 11, 3) := by decide +kernel
theorem dX5_coil_60 : decode cX5_coil 60 = .ok (.aload_n 0, 1) := by decide +kernel
theorem dX5_coil_61 : decode cX5_coil 61 = .ok (.getfield 15, 3) := by decide +kernel
theorem dX5_coil_64 : decode cX5_coil 64 = .ok (.aaload, 1) := by decide +kernel
theorem dX5_coil_65 : decode cX5_coil 65 = .ok (.iload_n 1, 1) := by decide +kernel
theorem dX5_coil_66 : decode cX5_coil 66 = .ok (.iload_n 2, 1) := by decide +kernel
theorem dX5_coil_67 : decode cX5_coil 67 = .ok (.iload_n 3, 1) := by decide +kernel
theorem dX5_coil_68 : decode cX5_coil 68 = .ok (.iload 4, 2) := by decide +kernel
theorem dX5_coil_70 : decode cX5_coil 70 = .ok (.invokevirtual 94, 3) := by decide +kernel
theorem dX5_coil_73 : decode cX5_coil 73 = .ok (.aload_n 0, 1) := by decide +kernel
theorem dX5_coil_74 : decode cX5_coil 74 = .ok (.dup, 1) := by decide +kernel
theorem dX5_coil_75 : decode cX5_coil 75 = .ok (.getfield 15, 3) := by decide +kernel
theorem dX5_coil_78 : decode cX5_coil 78 = .ok (.iconst 1, 1) := by decide +kernel
theorem dX5_coil_79 : decode cX5_coil 79 = .ok (.iadd, 1) := by decide +kernel
theorem dX5_coil_80 : decode cX5_coil 80 = .ok (.putfield 15, 3) := by decide +kernel
theorem dX5_coil_83 : decode cX5_coil 83 = .ok (.aload_n 0, 1) := by decide +kernel
theorem dX5_coil_84 : decode cX5_coil 84 = .ok (.getfield 15, 3) := by decide +kernel
theorem dX5_coil_87 : decode cX5_coil 87 = .ok (.iconst 1, 1) := by decide +kernel
theorem dX5_coil_88 : decode cX5_coil 88 = .ok (.isub, 1) := by decide +kernel
theorem dX5_coil_89 : decode cX5_coil 89 = .ok (.ireturn, 1) := by decide +kernel
theorem dX5_defect_0 : decode cX5_defect 0 = .ok (.aload_n 0, 1) := by decide +kernel
theorem dX5_defect_1 : decode cX5_defect 1 = .ok (.iload_n 1, 1) := by decide +kernel
theorem dX5_defect_2 : decode cX5_defect 2 = .ok (.invokevirtual 98, 3) := by decide +kernel
theorem dX5_defect_5 : decode cX5_defect 5 = .ok (.aload_n 0, 1) := by decide +kernel
theorem dX5_defect_6 : decode cX5_defect 6 = .ok (.getfield 11, 3) := by decide +kernel
theorem dX5_defect_9 : decode cX5_defect 9 = .ok (.iload_n 1, 1) := by decide +kernel
theorem dX5_defect_10 : decode cX5_defect 10 = .ok (.aaload, 1) := by decide +kernel
theorem dX5_defect_11 : decode cX5_defect 11 = .ok (.astore 4, 2) := by decide +kernel
theorem dX5_defect_13 : decode cX5_defect 13 = .ok (.iload_n 2, 1) := by decide +kernel
theorem dX5_defect_14 : decode cX5_defect 14 = .ok (.iconst 0, 1) := by decide +kernel
theorem dX5_defect_15 : decode cX5_defect 15 = .ok (.aload 4, 2) := by decide +kernel
theorem dX5_defect_17 : decode cX5_defect 17 = .ok (.getfield 102, 3) := by decide +kernel
theorem dX5_defect_20 : decode cX5_defect 20 = .ok (.iconst 1, 1) := by decide +kernel
theorem dX5_defect_21 : decode cX5_defect 21 = .ok (.isub, 1) := by decide +kernel
theorem dX5_defect_22 : decode cX5_defect 22 = .ok (.invokestatic 83, 3) := by decide +kernel
theorem dX5_defect_25 : decode cX5_defect 25 = .ok (.iload_n 3, 1) := by decide +kernel
theorem dX5_defect_26 : decode cX5_defect 26 = .ok (.iload_n 2, 1) := by decide +kernel
theorem dX5_defect_27 : decode cX5_defect 27 = .ok (.iconst 1, 1) := by decide +kernel
theorem dX5_defect_28 : decode cX5_defect 28 = .ok (.iadd, 1) := by decide +kernel
theorem dX5_defect_29 : decode cX5_defect 29 = .ok (.aload 4, 2) := by decide +kernel
theorem dX5_defect_31 : decode cX5_defect 31 = .ok (.getfield 102, 3) := by decide +kernel
theorem dX5_defect_34 : decode cX5_defect 34 = .ok (.invokestatic 83, 3) := by decide +kernel
theorem dX5_defect_37 : decode cX5_defect 37 = .ok (.aload 4, 2) := by decide +kernel
theorem dX5_defect_39 : decode cX5_defect 39 = .ok (.invokevirtual 105, 3) := by decide +kernel
theorem dX5_defect_42 : decode cX5_defect 42 = .ok (.ifCond .ne 11, 3) := by decide +kernel
theorem dX5_defect_45 : decode cX5_defect 45 = .ok (.aload 4, 2) := by decide +kernel
theorem dX5_defect_47 : decode cX5_defect 47 = .ok (.invokevirtual 109, 3) := by decide +kernel
theorem dX5_defect_50 : decode cX5_defect 50 = .ok (.ifCond .eq 13, 3) := by decide +kernel
theorem dX5_defect_53 : decode cX5_defect 53 = .ok (.new 87, 3) := by decide +kernel
theorem dX5_defect_56 : decode cX5_defect 56 = .ok (.dup, 1) := by decide +kernel
theorem dX5_defect_57 : decode cX5_defect 57 = .ok (.ldc 112, 2) := by decide +kernel
theorem dX5_defect_59 : decode cX5_defect 59 = .ok (.invokespecial 91, 3) := by decide +kernel
theorem dX5_defect_62 : decode cX5_defect 62 = .ok (.athrow, 1) := by decide +kernel
theorem dX5_defect_63 : decode cX5_defect 63 = .ok (.aload 4, 2) := by decide +kernel
theorem dX5_defect_65 : decode cX5_defect 65 = .ok (.iload_n 2, 1) := by decide +kernel
theorem dX5_defect_66 : decode cX5_defect 66 = .ok (.iload_n 3, 1) := by decide +kernel
theorem dX5_defect_67 : decode cX5_defect 67 = .ok (.invokevirtual 114, 3) := by decide +kernel
theorem dX5_defect_70 : decode cX5_defect 70 = .ok (.aload 4, 2) := by decide +kernel
theorem dX5_defect_72 : decode cX5_defect 72 = .ok (.invokevirtual 118, 3) := by decide +kernel
theorem dX5_defect_75 : decode cX5_defect 75 = .ok (.ireturn, 1) := by decide +kernel
theorem dX5_setRules_0 : decode cX5_setRules 0 = .ok (.iload_n 1, 1) := by decide +kernel
theorem dX5_setRules_1 : decode cX5_setRules 1 = .ok (.iconst 0, 1) := by decide +kernel
theorem dX5_setRules_2 : decode cX5_setRules 2 = .ok (.bipush 100, 2) := by decide +kernel
theorem dX5_setRules_4 : decode cX5_setRules 4 = .ok (.invokestatic 83, 3) := by decide +kernel
theorem dX5_setRules_7 : decode cX5_setRules 7 = .ok (.iload_n 2, 1) := by decide +kernel
theorem dX5_setRules_8 : decode cX5_setRules 8 = .ok (.iconst 0, 1) := by decide +kernel
theorem dX5_setRules_9 : decode cX5_setRules 9 = .ok (.sipush 500, 3) := by decide +kernel
theorem dX5_setRules_12 : decode cX5_setRules 12 = .ok (.invokestatic 83, 3) := by decide +kernel
theorem dX5_setRules_15 : decode cX5_setRules 15 = .ok (.iload_n 3, 1) := by decide +kernel
theorem dX5_setRules_16 : decode cX5_setRules 16 = .ok (.iconst 2, 1) := by decide +kernel
theorem dX5_setRules_17 : decode cX5_setRules 17 = .ok (.bipush 16, 2) := by decide +kernel
theorem dX5_setRules_19 : decode cX5_setRules 19 = .ok (.invokestatic 83, 3) := by decide +kernel
theorem dX5_setRules_22 : decode cX5_setRules 22 = .ok (.aload_n 0, 1) := by decide +kernel
theorem dX5_setRules_23 : decode cX5_setRules 23 = .ok (.getfield 42, 3) := by decide +kernel
theorem dX5_setRules_26 : decode cX5_setRules 26 = .ok (.istore 4, 2) := by decide +kernel
theorem dX5_setRules_28 : decode cX5_setRules 28 = .ok (.aload_n 0, 1) := by decide +kernel
theorem dX5_setRules_29 : decode cX5_setRules 29 = .ok (.iload_n 1, 1) := by decide +kernel
theorem dX5_setRules_30 : decode cX5_setRules 30 = .ok (.putfield 42, 3) := by decide +kernel
theorem dX5_setRules_33 : decode cX5_setRules 33 = .ok (.aload_n 0, 1) := by decide +kernel
theorem dX5_setRules_34 : decode cX5_setRules 34 = .ok (.iload_n 2, 1) := by decide +kernel
theorem dX5_setRules_35 : decode cX5_setRules 35 = .ok (.putfield 45, 3) := by decide +kernel
theorem dX5_setRules_38 : decode cX5_setRules 38 = .ok (.aload_n 0, 1) := by decide +kernel
theorem dX5_setRules_39 : decode cX5_setRules 39 = .ok (.iload_n 3, 1) := by decide +kernel
theorem dX5_setRules_40 : decode cX5_setRules 40 = .ok (.putfield 48, 3) := by decide +kernel
theorem dX5_setRules_43 : decode cX5_setRules 43 = .ok (.iload 4, 2) := by decide +kernel
theorem dX5_setRules_45 : decode cX5_setRules 45 = .ok (.ireturn, 1) := by decide +kernel
theorem dX5_order_0 : decode cX5_order 0 = .ok (.iload_n 1, 1) := by decide +kernel
theorem dX5_order_1 : decode cX5_order 1 = .ok (.bipush 20, 2) := by decide +kernel
theorem dX5_order_3 : decode cX5_order 3 = .ok (.sipush 1000, 3) := by decide +kernel
theorem dX5_order_6 : decode cX5_order 6 = .ok (.invokestatic 83, 3) := by decide +kernel
theorem dX5_order_9 : decode cX5_order 9 = .ok (.iload_n 2, 1) := by decide +kernel
theorem dX5_order_10 : decode cX5_order 10 = .ok (.iconst 1, 1) := by decide +kernel
theorem dX5_order_11 : decode cX5_order 11 = .ok (.ldc 122, 2) := by decide +kernel
theorem dX5_order_13 : decode cX5_order 13 = .ok (.invokestatic 83, 3) := by decide +kernel
theorem dX5_order_16 : decode cX5_order 16 = .ok (.aload_n 0, 1) := by decide +kernel
theorem dX5_order_17 : decode cX5_order 17 = .ok (.getfield 25, 3) := by decide +kernel
theorem dX5_order_20 : decode cX5_order 20 = .ok (.aload_n 0, 1) := by decide +kernel
theorem dX5_order_21 : decode cX5_order 21 = .ok (.getfield 21, 3) := by decide +kernel
theorem dX5_order_24 : decode cX5_order 24 = .ok (.arraylength, 1) := by decide +kernel
theorem dX5_order_25 : decode cX5_order 25 = .ok (.if_icmp .lt 13, 3) := by decide +kernel
theorem dX5_order_28 : decode cX5_order 28 = .ok (.new 87, 3) := by decide +kernel
theorem dX5_order_31 : decode cX5_order 31 = .ok (.dup, 1) := by decide +kernel
theorem dX5_order_32 : decode cX5_order 32 = .ok (.ldc 123, 2) := by decide +kernel
theorem dX5_order_34 : decode cX5_order 34 = .ok (.invokespecial 91, 3) := by decide +kernel
theorem dX5_order_37 : decode cX5_order 37 = .ok (.athrow, 1) := by decide +kernel
theorem dX5_order_38 : decode cX5_order 38 = .ok (.aload_n 0, 1) := by decide +kernel
theorem dX5_order_39 : decode cX5_order 39 = .ok (.getfield 21, 3) := by decide +kernel
theorem dX5_order_42 : decode cX5_order 42 = .ok (.aload_n 0, 1) := by decide +kernel
theorem dX5_order_43 : decode cX5_order 43 = .ok (.getfield 25, 3) := by decide +kernel
theorem dX5_order_46 : decode cX5_order 46 = .ok (.aaload, 1) := by decide +kernel
theorem dX5_order_47 : decode cX5_order 47 = .ok (.iload_n 1, 1) := by decide +kernel
theorem dX5_order_48 : decode cX5_order 48 = .ok (.iload_n 2, 1) := by decide +kernel
theorem dX5_order_49 : decode cX5_order 49 = .ok (.invokevirtual 125, 3) := by decide +kernel
theorem dX5_order_52 : decode cX5_order 52 = .ok (.aload_n 0, 1) := by decide +kernel
theorem dX5_order_53 : decode cX5_order 53 = .ok (.dup, 1) := by decide +kernel
theorem dX5_order_54 : decode cX5_order 54 = .ok (.getfield 25, 3) := by decide +kernel
theorem dX5_order_57 : decode cX5_order 57 = .ok (.iconst 1, 1) := by decide +kernel
theorem dX5_order_58 : decode cX5_order 58 = .ok (.iadd, 1) := by decide +kernel
theorem dX5_order_59 : decode cX5_order 59 = .ok (.putfield 25, 3) := by decide +kernel
theorem dX5_order_62 : decode cX5_order 62 = .ok (.aload_n 0, 1) := by decide +kernel
theorem dX5_order_63 : decode cX5_order 63 = .ok (.getfield 25, 3) := by decide +kernel
theorem dX5_order_66 : decode cX5_order 66 = .ok (.iconst 1, 1) := by decide +kernel
theorem dX5_order_67 : decode cX5_order 67 = .ok (.isub, 1) := by decide +kernel
theorem dX5_order_68 : decode cX5_order 68 = .ok (.ireturn, 1) := by decide +kernel
theorem dX5_addSlit_0 : decode cX5_addSlit 0 = .ok (.iload_n 1, 1) := by decide +kernel
theorem dX5_addSlit_1 : decode cX5_addSlit 1 = .ok (.bipush 20, 2) := by decide +kernel
theorem dX5_addSlit_3 : decode cX5_addSlit 3 = .ok (.sipush 1000, 3) := by decide +kernel
theorem dX5_addSlit_6 : decode cX5_addSlit 6 = .ok (.invokestatic 83, 3) := by decide +kernel
theorem dX5_addSlit_9 : decode cX5_addSlit 9 = .ok (.aload_n 0, 1) := by decide +kernel
theorem dX5_addSlit_10 : decode cX5_addSlit 10 = .ok (.getfield 38, 3) := by decide +kernel
theorem dX5_addSlit_13 : decode cX5_addSlit 13 = .ok (.invokevirtual 127, 3) := by decide +kernel
theorem dX5_addSlit_16 : decode cX5_addSlit 16 = .ok (.ifCond .eq 13, 3) := by decide +kernel
theorem dX5_addSlit_19 : decode cX5_addSlit 19 = .ok (.new 87, 3) := by decide +kernel
theorem dX5_addSlit_22 : decode cX5_addSlit 22 = .ok (.dup, 1) := by decide +kernel
theorem dX5_addSlit_23 : decode cX5_addSlit 23 = .ok (.ldc 130, 2) := by decide +kernel
theorem dX5_addSlit_25 : decode cX5_addSlit 25 = .ok (.invokespecial 91, 3) := by decide +kernel
theorem dX5_addSlit_28 : decode cX5_addSlit 28 = .ok (.athrow, 1) := by decide +kernel
theorem dX5_addSlit_29 : decode cX5_addSlit 29 = .ok (.aload_n 0, 1) := by decide +kernel
theorem dX5_addSlit_30 : decode cX5_addSlit 30 = .ok (.getfield 38, 3) := by decide +kernel
theorem dX5_addSlit_33 : decode cX5_addSlit 33 = .ok (.iload_n 1, 1) := by decide +kernel
theorem dX5_addSlit_34 : decode cX5_addSlit 34 = .ok (.invokevirtual 132, 3) := by decide +kernel
theorem dX5_addSlit_37 : decode cX5_addSlit 37 = .ok (.aload_n 0, 1) := by decide +kernel
theorem dX5_addSlit_38 : decode cX5_addSlit 38 = .ok (.getfield 38, 3) := by decide +kernel
theorem dX5_addSlit_41 : decode cX5_addSlit 41 = .ok (.getfield 135, 3) := by decide +kernel
theorem dX5_addSlit_44 : decode cX5_addSlit 44 = .ok (.ireturn, 1) := by decide +kernel
theorem dX5_clearDraft_0 : decode cX5_clearDraft 0 = .ok (.aload_n 0, 1) := by decide +kernel
theorem dX5_clearDraft_1 : decode cX5_clearDraft 1 = .ok (.getfield 38, 3) := by decide +kernel
theorem dX5_clearDraft_4 : decode cX5_clearDraft 4 = .ok (.getfield 135, 3) := by decide +kernel
theorem dX5_clearDraft_7 : decode cX5_clearDraft 7 = .ok (.istore_n 1, 1) := by decide +kernel
theorem dX5_clearDraft_8 : decode cX5_clearDraft 8 = .ok (.aload_n 0, 1) := by decide +kernel
theorem dX5_clearDraft_9 : decode cX5_clearDraft 9 = .ok (.getfield 38, 3) := by decide +kernel
theorem dX5_clearDraft_12 : decode cX5_clearDraft 12 = .ok (.invokevirtual 138, 3) := by decide +kernel
theorem dX5_clearDraft_15 : decode cX5_clearDraft 15 = .ok (.iload_n 1, 1) := by decide +kernel
theorem dX5_clearDraft_16 : decode cX5_clearDraft 16 = .ok (.ireturn, 1) := by decide +kernel
theorem dX5_draftSlits_0 : decode cX5_draftSlits 0 = .ok (.aload_n 0, 1) := by decide +kernel
theorem dX5_draftSlits_1 : decode cX5_draftSlits 1 = .ok (.getfield 38, 3) := by decide +kernel
theorem dX5_draftSlits_4 : decode cX5_draftSlits 4 = .ok (.getfield 135, 3) := by decide +kernel
theorem dX5_draftSlits_7 : decode cX5_draftSlits 7 = .ok (.ireturn, 1) := by decide +kernel
theorem dX5_draftWidth_0 : decode cX5_draftWidth 0 = .ok (.aload_n 0, 1) := by decide +kernel
theorem dX5_draftWidth_1 : decode cX5_draftWidth 1 = .ok (.getfield 38, 3) := by decide +kernel
theorem dX5_draftWidth_4 : decode cX5_draftWidth 4 = .ok (.iload_n 1, 1) := by decide +kernel
theorem dX5_draftWidth_5 : decode cX5_draftWidth 5 = .ok (.invokevirtual 141, 3) := by decide +kernel
theorem dX5_draftWidth_8 : decode cX5_draftWidth 8 = .ok (.ifCond .ne 13, 3) := by decide +kernel
theorem dX5_draftWidth_11 : decode cX5_draftWidth 11 = .ok (.new 145, 3) := by decide +kernel
theorem dX5_draftWidth_14 : decode cX5_draftWidth 14 = .ok (.dup, 1) := by decide +kernel
theorem dX5_draftWidth_15 : decode cX5_draftWidth 15 = .ok (.ldc 147, 2) := by decide +kernel
theorem dX5_draftWidth_17 : decode cX5_draftWidth 17 = .ok (.invokespecial 149, 3) := by decide +kernel
theorem dX5_draftWidth_20 : decode cX5_draftWidth 20 = .ok (.athrow, 1) := by decide +kernel
theorem dX5_draftWidth_21 : decode cX5_draftWidth 21 = .ok (.aload_n 0, 1) := by decide +kernel
theorem dX5_draftWidth_22 : decode cX5_draftWidth 22 = .ok (.getfield 38, 3) := by decide +kernel
theorem dX5_draftWidth_25 : decode cX5_draftWidth 25 = .ok (.getfield 150, 3) := by decide +kernel
theorem dX5_draftWidth_28 : decode cX5_draftWidth 28 = .ok (.iload_n 1, 1) := by decide +kernel
theorem dX5_draftWidth_29 : decode cX5_draftWidth 29 = .ok (.iaload, 1) := by decide +kernel
theorem dX5_draftWidth_30 : decode cX5_draftWidth 30 = .ok (.ireturn, 1) := by decide +kernel
theorem dX5_keep_0 : decode cX5_keep 0 = .ok (.aload_n 0, 1) := by decide +kernel
theorem dX5_keep_1 : decode cX5_keep 1 = .ok (.getfield 38, 3) := by decide +kernel
theorem dX5_keep_4 : decode cX5_keep 4 = .ok (.getfield 135, 3) := by decide +kernel
theorem dX5_keep_7 : decode cX5_keep 7 = .ok (.ifCond .eq 15, 3) := by decide +kernel
theorem dX5_keep_10 : decode cX5_keep 10 = .ok (.aload_n 0, 1) := by decide +kernel
theorem dX5_keep_11 : decode cX5_keep 11 = .ok (.getfield 34, 3) := by decide +kernel
theorem dX5_keep_14 : decode cX5_keep 14 = .ok (.aload_n 0, 1) := by decide +kernel
theorem dX5_keep_15 : decode cX5_keep 15 = .ok (.getfield 30, 3) := by decide +kernel
theorem dX5_keep_18 : decode cX5_keep 18 = .ok (.arraylength, 1) := by decide +kernel
theorem dX5_keep_19 : decode cX5_keep 19 = .ok (.if_icmp .lt 13, 3) := by decide +kernel
theorem dX5_keep_22 : decode cX5_keep 22 = .ok (.new 87, 3) := by decide +kernel
theorem dX5_keep_25 : decode cX5_keep 25 = .ok (.dup, 1) := by decide +kernel
theorem dX5_keep_26 : decode cX5_keep 26 = .ok (.ldc 153, 2) := by decide +kernel
theorem dX5_keep_28 : decode cX5_keep 28 = .ok (.invokespecial 91, 3) := by decide +kernel
theorem dX5_keep_31 : decode cX5_keep 31 = .ok (.athrow, 1) := by decide +kernel
theorem dX5_keep_32 : decode cX5_keep 32 = .ok (.aload_n 0, 1) := by decide +kernel
theorem dX5_keep_33 : decode cX5_keep 33 = .ok (.getfield 30, 3) := by decide +kernel
theorem dX5_keep_36 : decode cX5_keep 36 = .ok (.aload_n 0, 1) := by decide +kernel
theorem dX5_keep_37 : decode cX5_keep 37 = .ok (.getfield 34, 3) := by decide +kernel
theorem dX5_keep_40 : decode cX5_keep 40 = .ok (.aaload, 1) := by decide +kernel
theorem dX5_keep_41 : decode cX5_keep 41 = .ok (.aload_n 0, 1) := by decide +kernel
theorem dX5_keep_42 : decode cX5_keep 42 = .ok (.getfield 38, 3) := by decide +kernel
theorem dX5_keep_45 : decode cX5_keep 45 = .ok (.invokevirtual 155, 3) := by decide +kernel
theorem dX5_keep_48 : decode cX5_keep 48 = .ok (.aload_n 0, 1) := by decide +kernel
theorem dX5_keep_49 : decode cX5_keep 49 = .ok (.getfield 38, 3) := by decide +kernel
theorem dX5_keep_52 : decode cX5_keep 52 = .ok (.invokevirtual 138, 3) := by decide +kernel
theorem dX5_keep_55 : decode cX5_keep 55 = .ok (.aload_n 0, 1) := by decide +kernel
theorem dX5_keep_56 : decode cX5_keep 56 = .ok (.dup, 1) := by decide +kernel
theorem dX5_keep_57 : decode cX5_keep 57 = .ok (.getfield 34, 3) := by decide +kernel
theorem dX5_keep_60 : decode cX5_keep 60 = .ok (.iconst 1, 1) := by decide +kernel
theorem dX5_keep_61 : decode cX5_keep 61 = .ok (.iadd, 1) := by decide +kernel
theorem dX5_keep_62 : decode cX5_keep 62 = .ok (.putfield 34, 3) := by decide +kernel
theorem dX5_keep_65 : decode cX5_keep 65 = .ok (.aload_n 0, 1) := by decide +kernel
theorem dX5_keep_66 : decode cX5_keep 66 = .ok (.getfield 34, 3) := by decide +kernel
theorem dX5_keep_69 : decode cX5_keep 69 = .ok (.iconst 1, 1) := by decide +kernel
theorem dX5_keep_70 : decode cX5_keep 70 = .ok (.isub, 1) := by decide +kernel
theorem dX5_keep_71 : decode cX5_keep 71 = .ok (.ireturn, 1) := by decide +kernel
theorem dX5_fits_0 : decode cX5_fits 0 = .ok (.aload_n 0, 1) := by decide +kernel
theorem dX5_fits_1 : decode cX5_fits 1 = .ok (.iload_n 1, 1) := by decide +kernel
theorem dX5_fits_2 : decode cX5_fits 2 = .ok (.invokevirtual 159, 3) := by decide +kernel
theorem dX5_fits_5 : decode cX5_fits 5 = .ok (.aload_n 0, 1) := by decide +kernel
theorem dX5_fits_6 : decode cX5_fits 6 = .ok (.iload_n 2, 1) := by decide +kernel
theorem dX5_fits_7 : decode cX5_fits 7 = .ok (.invokevirtual 98, 3) := by decide +kernel
theorem dX5_fits_10 : decode cX5_fits 10 = .ok (.aload_n 0, 1) := by decide +kernel
theorem dX5_fits_11 : decode cX5_fits 11 = .ok (.aload_n 0, 1) := by decide +kernel
theorem dX5_fits_12 : decode cX5_fits 12 = .ok (.getfield 30, 3) := by decide +kernel
theorem dX5_fits_15 : decode cX5_fits 15 = .ok (.iload_n 1, 1) := by decide +kernel
theorem dX5_fits_16 : decode cX5_fits 16 = .ok (.aaload, 1) := by decide +kernel
theorem dX5_fits_17 : decode cX5_fits 17 = .ok (.aload_n 0, 1) := by decide +kernel
theorem dX5_fits_18 : decode cX5_fits 18 = .ok (.getfield 11, 3) := by decide +kernel
theorem dX5_fits_21 : decode cX5_fits 21 = .ok (.iload_n 2, 1) := by decide +kernel
theorem dX5_fits_22 : decode cX5_fits 22 = .ok (.aaload, 1) := by decide +kernel
theorem dX5_fits_23 : decode cX5_fits 23 = .ok (.invokevirtual 162, 3) := by decide +kernel
theorem dX5_fits_26 : decode cX5_fits 26 = .ok (.ireturn, 1) := by decide +kernel
theorem dX5_fill_0 : decode cX5_fill 0 = .ok (.aload_n 0, 1) := by decide +kernel
theorem dX5_fill_1 : decode cX5_fill 1 = .ok (.iload_n 1, 1) := by decide +kernel
theorem dX5_fill_2 : decode cX5_fill 2 = .ok (.invokevirtual 98, 3) := by decide +kernel
theorem dX5_fill_5 : decode cX5_fill 5 = .ok (.aload_n 0, 1) := by decide +kernel
theorem dX5_fill_6 : decode cX5_fill 6 = .ok (.aload_n 0, 1) := by decide +kernel
theorem dX5_fill_7 : decode cX5_fill 7 = .ok (.getfield 11, 3) := by decide +kernel
theorem dX5_fill_10 : decode cX5_fill 10 = .ok (.iload_n 1, 1) := by decide +kernel
theorem dX5_fill_11 : decode cX5_fill 11 = .ok (.aaload, 1) := by decide +kernel
theorem dX5_fill_12 : decode cX5_fill 12 = .ok (.invokevirtual 166, 3) := by decide +kernel
theorem dX5_fill_15 : decode cX5_fill 15 = .ok (.aload_n 0, 1) := by decide +kernel
theorem dX5_fill_16 : decode cX5_fill 16 = .ok (.getfield 70, 3) := by decide +kernel
theorem dX5_fill_19 : decode cX5_fill 19 = .ok (.aload_n 0, 1) := by decide +kernel
theorem dX5_fill_20 : decode cX5_fill 20 = .ok (.aload_n 0, 1) := by decide +kernel
theorem dX5_fill_21 : decode cX5_fill 21 = .ok (.getfield 11, 3) := by decide +kernel
theorem dX5_fill_24 : decode cX5_fill 24 = .ok (.iload_n 1, 1) := by decide +kernel
theorem dX5_fill_25 : decode cX5_fill 25 = .ok (.aaload, 1) := by decide +kernel
theorem dX5_fill_26 : decode cX5_fill 26 = .ok (.invokevirtual 170, 3) := by decide +kernel
theorem dX5_fill_29 : decode cX5_fill 29 = .ok (.aload_n 0, 1) := by decide +kernel
theorem dX5_fill_30 : decode cX5_fill 30 = .ok (.getfield 48, 3) := by decide +kernel
theorem dX5_fill_33 : decode cX5_fill 33 = .ok (.iconst 1, 1) := by decide +kernel
theorem dX5_fill_34 : decode cX5_fill 34 = .ok (.isub, 1) := by decide +kernel
theorem dX5_fill_35 : decode cX5_fill 35 = .ok (.invokevirtual 174, 3) := by decide +kernel
theorem dX5_fill_38 : decode cX5_fill 38 = .ok (.istore_n 2, 1) := by decide +kernel
theorem dX5_fill_39 : decode cX5_fill 39 = .ok (.aload_n 0, 1) := by decide +kernel
theorem dX5_fill_40 : decode cX5_fill 40 = .ok (.getfield 70, 3) := by decide +kernel
theorem dX5_fill_43 : decode cX5_fill 43 = .ok (.iload_n 2, 1) := by decide +kernel
theorem dX5_fill_44 : decode cX5_fill 44 = .ok (.aload_n 0, 1) := by decide +kernel
theorem dX5_fill_45 : decode cX5_fill 45 = .ok (.getfield 38, 3) := by decide +kernel
theorem dX5_fill_48 : decode cX5_fill 48 = .ok (.invokevirtual 178, 3) := by decide +kernel
theorem dX5_fill_51 : decode cX5_fill 51 = .ok (.iload_n 2, 1) := by decide +kernel
theorem dX5_fill_52 : decode cX5_fill 52 = .ok (.ireturn, 1) := by decide +kernel
theorem dX5_fullestByTrying_0 : decode cX5_fullestByTrying 0 = .ok (.aload_n 0, 1) := by decide +kernel
theorem dX5_fullestByTrying_1 : decode cX5_fullestByTrying 1 = .ok (.iload_n 1, 1) := by decide +kernel
theorem dX5_fullestByTrying_2 : decode cX5_fullestByTrying 2 = .ok (.invokevirtual 98, 3) := by decide +kernel
theorem dX5_fullestByTrying_5 : decode cX5_fullestByTrying 5 = .ok (.aload_n 0, 1) := by decide +kernel
theorem dX5_fullestByTrying_6 : decode cX5_fullestByTrying 6 = .ok (.getfield 48, 3) := by decide +kernel
theorem dX5_fullestByTrying_9 : decode cX5_fullestByTrying 9 = .ok (.bipush 8, 2) := by decide +kernel
theorem dX5_fullestByTrying_11 : decode cX5_fullestByTrying 11 = .ok (.if_icmp .le 13, 3) := by decide +kernel
theorem dX5_fullestByTrying_14 : decode cX5_fullestByTrying 14 = .ok (.new 87, 3) := by decide +kernel
theorem dX5_fullestByTrying_17 : decode cX5_fullestByTrying 17 = .ok (.dup, 1) := by decide +kernel
theorem dX5_fullestByTrying_18 : decode cX5_fullestByTrying 18 = .ok (.ldc 182, 2) := by decide +kernel
theorem dX5_fullestByTrying_20 : decode cX5_fullestByTrying 20 = .ok (.invokespecial 91, 3) := by decide +kernel
theorem dX5_fullestByTrying_23 : decode cX5_fullestByTrying 23 = .ok (.athrow, 1) := by decide +kernel
theorem dX5_fullestByTrying_24 : decode cX5_fullestByTrying 24 = .ok (.aload_n 0, 1) := by decide +kernel
theorem dX5_fullestByTrying_25 : decode cX5_fullestByTrying 25 = .ok (.aload_n 0, 1) := by decide +kernel
theorem dX5_fullestByTrying_26 : decode cX5_fullestByTrying 26 = .ok (.getfield 11, 3) := by decide +kernel
theorem dX5_fullestByTrying_29 : decode cX5_fullestByTrying 29 = .ok (.iload_n 1, 1) := by decide +kernel
theorem dX5_fullestByTrying_30 : decode cX5_fullestByTrying 30 = .ok (.aaload, 1) := by decide +kernel
theorem dX5_fullestByTrying_31 : decode cX5_fullestByTrying 31 = .ok (.invokevirtual 166, 3) := by decide +kernel
theorem dX5_fullestByTrying_34 : decode cX5_fullestByTrying 34 = .ok (.aload_n 0, 1) := by decide +kernel
theorem dX5_fullestByTrying_35 : decode cX5_fullestByTrying 35 = .ok (.getfield 70, 3) := by decide +kernel
theorem dX5_fullestByTrying_38 : decode cX5_fullestByTrying 38 = .ok (.aload_n 0, 1) := by decide +kernel
theorem dX5_fullestByTrying_39 : decode cX5_fullestByTrying 39 = .ok (.aload_n 0, 1) := by decide +kernel
theorem dX5_fullestByTrying_40 : decode cX5_fullestByTrying 40 = .ok (.getfield 11, 3) := by decide +kernel
theorem dX5_fullestByTrying_43 : decode cX5_fullestByTrying 43 = .ok (.iload_n 1, 1) := by decide +kernel
theorem dX5_fullestByTrying_44 : decode cX5_fullestByTrying 44 = .ok (.aaload, 1) := by decide +kernel
theorem dX5_fullestByTrying_45 : decode cX5_fullestByTrying 45 = .ok (.invokevirtual 170, 3) := by decide +kernel
theorem dX5_fullestByTrying_48 : decode cX5_fullestByTrying 48 = .ok (.aload_n 0, 1) := by decide +kernel
theorem dX5_fullestByTrying_49 : decode cX5_fullestByTrying 49 = .ok (.getfield 48, 3) := by decide +kernel
theorem dX5_fullestByTrying_52 : decode cX5_fullestByTrying 52 = .ok (.iconst 1, 1) := by decide +kernel
theorem dX5_fullestByTrying_53 : decode cX5_fullestByTrying 53 = .ok (.isub, 1) := by decide +kernel
theorem dX5_fullestByTrying_54 : decode cX5_fullestByTrying 54 = .ok (.invokevirtual 184, 3) := by decide +kernel
theorem dX5_fullestByTrying_57 : decode cX5_fullestByTrying 57 = .ok (.ireturn, 1) := by decide +kernel
theorem dX5_run_0 : decode cX5_run 0 = .ok (.aload_n 0, 1) := by decide +kernel
theorem dX5_run_1 : decode cX5_run 1 = .ok (.iload_n 1, 1) := by decide +kernel
theorem dX5_run_2 : decode cX5_run 2 = .ok (.invokevirtual 98, 3) := by decide +kernel
theorem dX5_run_5 : decode cX5_run 5 = .ok (.aload_n 0, 1) := by decide +kernel
theorem dX5_run_6 : decode cX5_run 6 = .ok (.iload_n 2, 1) := by decide +kernel
theorem dX5_run_7 : decode cX5_run 7 = .ok (.invokevirtual 159, 3) := by decide +kernel
theorem dX5_run_10 : decode cX5_run 10 = .ok (.aload_n 0, 1) := by decide +kernel
theorem dX5_run_11 : decode cX5_run 11 = .ok (.iload_n 1, 1) := by decide +kernel
theorem dX5_run_12 : decode cX5_run 12 = .ok (.iload_n 2, 1) := by decide +kernel
theorem dX5_run_13 : decode cX5_run 13 = .ok (.invokevirtual 187, 3) := by decide +kernel
theorem dX5_run_16 : decode cX5_run 16 = .ok (.ifCond .ne 13, 3) := by decide +kernel
theorem dX5_run_19 : decode cX5_run 19 = .ok (.new 87, 3) := by decide +kernel
theorem dX5_run_22 : decode cX5_run 22 = .ok (.dup, 1) := by decide +kernel
theorem dX5_run_23 : decode cX5_run 23 = .ok (.ldc 191, 2) := by decide +kernel
theorem dX5_run_25 : decode cX5_run 25 = .ok (.invokespecial 91, 3) := by decide +kernel
theorem dX5_run_28 : decode cX5_run 28 = .ok (.athrow, 1) := by decide +kernel
theorem dX5_run_29 : decode cX5_run 29 = .ok (.aload_n 0, 1) := by decide +kernel
theorem dX5_run_30 : decode cX5_run 30 = .ok (.iload_n 1, 1) := by decide +kernel
theorem dX5_run_31 : decode cX5_run 31 = .ok (.iload_n 2, 1) := by decide +kernel
theorem dX5_run_32 : decode cX5_run 32 = .ok (.invokevirtual 193, 3) := by decide +kernel
theorem dX5_run_35 : decode cX5_run 35 = .ok (.ireturn, 1) := by decide +kernel
theorem dX5_moves_0 : decode cX5_moves 0 = .ok (.aload_n 0, 1) := by decide +kernel
theorem dX5_moves_1 : decode cX5_moves 1 = .ok (.iload_n 1, 1) := by decide +kernel
theorem dX5_moves_2 : decode cX5_moves 2 = .ok (.invokevirtual 159, 3) := by decide +kernel
theorem dX5_moves_5 : decode cX5_moves 5 = .ok (.aload_n 0, 1) := by decide +kernel
theorem dX5_moves_6 : decode cX5_moves 6 = .ok (.aload_n 0, 1) := by decide +kernel
theorem dX5_moves_7 : decode cX5_moves 7 = .ok (.getfield 51, 3) := by decide +kernel
theorem dX5_moves_10 : decode cX5_moves 10 = .ok (.iload_n 1, 1) := by decide +kernel
theorem dX5_moves_11 : decode cX5_moves 11 = .ok (.invokevirtual 196, 3) := by decide +kernel
theorem dX5_moves_14 : decode cX5_moves 14 = .ok (.ireturn, 1) := by decide +kernel
theorem dX5_moved_0 : decode cX5_moved 0 = .ok (.aload_n 0, 1) := by decide +kernel
theorem dX5_moved_1 : decode cX5_moved 1 = .ok (.getfield 54, 3) := by decide +kernel
theorem dX5_moved_4 : decode cX5_moved 4 = .ok (.ireturn, 1) := by decide +kernel
theorem dX5_plan_0 : decode cX5_plan 0 = .ok (.aload_n 0, 1) := by decide +kernel
theorem dX5_plan_1 : decode cX5_plan 1 = .ok (.iload_n 1, 1) := by decide +kernel
theorem dX5_plan_2 : decode cX5_plan 2 = .ok (.invokevirtual 98, 3) := by decide +kernel
theorem dX5_plan_5 : decode cX5_plan 5 = .ok (.aload_n 0, 1) := by decide +kernel
theorem dX5_plan_6 : decode cX5_plan 6 = .ok (.iload_n 2, 1) := by decide +kernel
theorem dX5_plan_7 : decode cX5_plan 7 = .ok (.invokevirtual 159, 3) := by decide +kernel
theorem dX5_plan_10 : decode cX5_plan 10 = .ok (.aload_n 0, 1) := by decide +kernel
theorem dX5_plan_11 : decode cX5_plan 11 = .ok (.iload_n 1, 1) := by decide +kernel
theorem dX5_plan_12 : decode cX5_plan 12 = .ok (.iload_n 2, 1) := by decide +kernel
theorem dX5_plan_13 : decode cX5_plan 13 = .ok (.invokevirtual 187, 3) := by decide +kernel
theorem dX5_plan_16 : decode cX5_plan 16 = .ok (.ifCond .eq 20, 3) := by decide +kernel
theorem dX5_plan_19 : decode cX5_plan 19 = .ok (.aload_n 0, 1) := by decide +kernel
theorem dX5_plan_20 : decode cX5_plan 20 = .ok (.iload_n 1, 1) := by decide +kernel
theorem dX5_plan_21 : decode cX5_plan 21 = .ok (.invokevirtual 199, 3) := by decide +kernel
theorem dX5_plan_24 : decode cX5_plan 24 = .ok (.ifCond .ne 12, 3) := by decide +kernel
theorem dX5_plan_27 : decode cX5_plan 27 = .ok (.aload_n 0, 1) := by decide +kernel
theorem dX5_plan_28 : decode cX5_plan 28 = .ok (.getfield 64, 3) := by decide +kernel
theorem dX5_plan_31 : decode cX5_plan 31 = .ok (.bipush 7, 2) := by decide +kernel
theorem dX5_plan_33 : decode cX5_plan 33 = .ok (.if_icmp .lt 13, 3) := by decide +kernel
theorem dX5_plan_36 : decode cX5_plan 36 = .ok (.new 87, 3) := by decide +kernel
theorem dX5_plan_39 : decode cX5_plan 39 = .ok (.dup, 1) := by decide +kernel
theorem dX5_plan_40 : decode cX5_plan 40 = .ok (.ldc 202, 2) := by decide +kernel
theorem dX5_plan_42 : decode cX5_plan 42 = .ok (.invokespecial 91, 3) := by decide +kernel
theorem dX5_plan_45 : decode cX5_plan 45 = .ok (.athrow, 1) := by decide +kernel
theorem dX5_plan_46 : decode cX5_plan 46 = .ok (.aload_n 0, 1) := by decide +kernel
theorem dX5_plan_47 : decode cX5_plan 47 = .ok (.getfield 57, 3) := by decide +kernel
theorem dX5_plan_50 : decode cX5_plan 50 = .ok (.aload_n 0, 1) := by decide +kernel
theorem dX5_plan_51 : decode cX5_plan 51 = .ok (.getfield 64, 3) := by decide +kernel
theorem dX5_plan_54 : decode cX5_plan 54 = .ok (.iload_n 1, 1) := by decide +kernel
theorem dX5_plan_55 : decode cX5_plan 55 = .ok (.iastore, 1) := by decide +kernel
theorem dX5_plan_56 : decode cX5_plan 56 = .ok (.aload_n 0, 1) := by decide +kernel
theorem dX5_plan_57 : decode cX5_plan 57 = .ok (.getfield 61, 3) := by decide +kernel
theorem dX5_plan_60 : decode cX5_plan 60 = .ok (.aload_n 0, 1) := by decide +kernel
theorem dX5_plan_61 : decode cX5_plan 61 = .ok (.getfield 64, 3) := by decide +kernel
theorem dX5_plan_64 : decode cX5_plan 64 = .ok (.iload_n 2, 1) := by decide +kernel
theorem dX5_plan_65 : decode cX5_plan 65 = .ok (.iastore, 1) := by decide +kernel
theorem dX5_plan_66 : decode cX5_plan 66 = .ok (.aload_n 0, 1) := by decide +kernel
theorem dX5_plan_67 : decode cX5_plan 67 = .ok (.dup, 1) := by decide +kernel
theorem dX5_plan_68 : decode cX5_plan 68 = .ok (.getfield 64, 3) := by decide +kernel
theorem dX5_plan_71 : decode cX5_plan 71 = .ok (.iconst 1, 1) := by decide +kernel
theorem dX5_plan_72 : decode cX5_plan 72 = .ok (.iadd, 1) := by decide +kernel
theorem dX5_plan_73 : decode cX5_plan 73 = .ok (.putfield 64, 3) := by decide +kernel
theorem dX5_plan_76 : decode cX5_plan 76 = .ok (.aload_n 0, 1) := by decide +kernel
theorem dX5_plan_77 : decode cX5_plan 77 = .ok (.getfield 64, 3) := by decide +kernel
theorem dX5_plan_80 : decode cX5_plan 80 = .ok (.iconst 1, 1) := by decide +kernel
theorem dX5_plan_81 : decode cX5_plan 81 = .ok (.isub, 1) := by decide +kernel
theorem dX5_plan_82 : decode cX5_plan 82 = .ok (.ireturn, 1) := by decide +kernel
theorem dX5_waiting_0 : decode cX5_waiting 0 = .ok (.aload_n 0, 1) := by decide +kernel
theorem dX5_waiting_1 : decode cX5_waiting 1 = .ok (.getfield 64, 3) := by decide +kernel
theorem dX5_waiting_4 : decode cX5_waiting 4 = .ok (.ireturn, 1) := by decide +kernel
theorem dX5_fewestMoves_0 : decode cX5_fewestMoves 0 = .ok (.aload_n 0, 1) := by decide +kernel
theorem dX5_fewestMoves_1 : decode cX5_fewestMoves 1 = .ok (.invokevirtual 204, 3) := by decide +kernel
theorem dX5_fewestMoves_4 : decode cX5_fewestMoves 4 = .ok (.aload_n 0, 1) := by decide +kernel
theorem dX5_fewestMoves_5 : decode cX5_fewestMoves 5 = .ok (.getfield 77, 3) := by decide +kernel
theorem dX5_fewestMoves_8 : decode cX5_fewestMoves 8 = .ok (.aload_n 0, 1) := by decide +kernel
theorem dX5_fewestMoves_9 : decode cX5_fewestMoves 9 = .ok (.getfield 64, 3) := by decide +kernel
theorem dX5_fewestMoves_12 : decode cX5_fewestMoves 12 = .ok (.invokevirtual 207, 3) := by decide +kernel
theorem dX5_fewestMoves_15 : decode cX5_fewestMoves 15 = .ok (.ireturn, 1) := by decide +kernel
theorem dX5_fewestByTrying_0 : decode cX5_fewestByTrying 0 = .ok (.aload_n 0, 1) := by decide +kernel
theorem dX5_fewestByTrying_1 : decode cX5_fewestByTrying 1 = .ok (.invokevirtual 204, 3) := by decide +kernel
theorem dX5_fewestByTrying_4 : decode cX5_fewestByTrying 4 = .ok (.aload_n 0, 1) := by decide +kernel
theorem dX5_fewestByTrying_5 : decode cX5_fewestByTrying 5 = .ok (.getfield 77, 3) := by decide +kernel
theorem dX5_fewestByTrying_8 : decode cX5_fewestByTrying 8 = .ok (.aload_n 0, 1) := by decide +kernel
theorem dX5_fewestByTrying_9 : decode cX5_fewestByTrying 9 = .ok (.getfield 64, 3) := by decide +kernel
theorem dX5_fewestByTrying_12 : decode cX5_fewestByTrying 12 = .ok (.invokevirtual 211, 3) := by decide +kernel
theorem dX5_fewestByTrying_15 : decode cX5_fewestByTrying 15 = .ok (.ireturn, 1) := by decide +kernel
theorem dX5_nextAt_0 : decode cX5_nextAt 0 = .ok (.iload_n 1, 1) := by decide +kernel
theorem dX5_nextAt_1 : decode cX5_nextAt 1 = .ok (.ifCond .lt 11, 3) := by decide +kernel
theorem dX5_nextAt_4 : decode cX5_nextAt 4 = .ok (.iload_n 1, 1) := by decide +kernel
theorem dX5_nextAt_5 : decode cX5_nextAt 5 = .ok (.aload_n 0, 1) := by decide +kernel
theorem dX5_nextAt_6 : decode cX5_nextAt 6 = .ok (.getfield 64, 3) := by decide +kernel
theorem dX5_nextAt_9 : decode cX5_nextAt 9 = .ok (.if_icmp .lt 13, 3) := by decide +kernel
theorem dX5_nextAt_12 : decode cX5_nextAt 12 = .ok (.new 145, 3) := by decide +kernel
theorem dX5_nextAt_15 : decode cX5_nextAt 15 = .ok (.dup, 1) := by decide +kernel
theorem dX5_nextAt_16 : decode cX5_nextAt 16 = .ok (.ldc 214, 2) := by decide +kernel
theorem dX5_nextAt_18 : decode cX5_nextAt 18 = .ok (.invokespecial 149, 3) := by decide +kernel
theorem dX5_nextAt_21 : decode cX5_nextAt 21 = .ok (.athrow, 1) := by decide +kernel
theorem dX5_nextAt_22 : decode cX5_nextAt 22 = .ok (.aload_n 0, 1) := by decide +kernel
theorem dX5_nextAt_23 : decode cX5_nextAt 23 = .ok (.invokevirtual 204, 3) := by decide +kernel
theorem dX5_nextAt_26 : decode cX5_nextAt 26 = .ok (.aload_n 0, 1) := by decide +kernel
theorem dX5_nextAt_27 : decode cX5_nextAt 27 = .ok (.getfield 77, 3) := by decide +kernel
theorem dX5_nextAt_30 : decode cX5_nextAt 30 = .ok (.aload_n 0, 1) := by decide +kernel
theorem dX5_nextAt_31 : decode cX5_nextAt 31 = .ok (.getfield 64, 3) := by decide +kernel
theorem dX5_nextAt_34 : decode cX5_nextAt 34 = .ok (.invokevirtual 216, 3) := by decide +kernel
theorem dX5_nextAt_37 : decode cX5_nextAt 37 = .ok (.aload_n 0, 1) := by decide +kernel
theorem dX5_nextAt_38 : decode cX5_nextAt 38 = .ok (.getfield 77, 3) := by decide +kernel
theorem dX5_nextAt_41 : decode cX5_nextAt 41 = .ok (.getfield 219, 3) := by decide +kernel
theorem dX5_nextAt_44 : decode cX5_nextAt 44 = .ok (.iload_n 1, 1) := by decide +kernel
theorem dX5_nextAt_45 : decode cX5_nextAt 45 = .ok (.iaload, 1) := by decide +kernel
theorem dX5_nextAt_46 : decode cX5_nextAt 46 = .ok (.ireturn, 1) := by decide +kernel
theorem dX5_runAll_0 : decode cX5_runAll 0 = .ok (.aload_n 0, 1) := by decide +kernel
theorem dX5_runAll_1 : decode cX5_runAll 1 = .ok (.invokevirtual 204, 3) := by decide +kernel
theorem dX5_runAll_4 : decode cX5_runAll 4 = .ok (.aload_n 0, 1) := by decide +kernel
theorem dX5_runAll_5 : decode cX5_runAll 5 = .ok (.getfield 77, 3) := by decide +kernel
theorem dX5_runAll_8 : decode cX5_runAll 8 = .ok (.aload_n 0, 1) := by decide +kernel
theorem dX5_runAll_9 : decode cX5_runAll 9 = .ok (.getfield 64, 3) := by decide +kernel
theorem dX5_runAll_12 : decode cX5_runAll 12 = .ok (.invokevirtual 216, 3) := by decide +kernel
theorem dX5_runAll_15 : decode cX5_runAll 15 = .ok (.iconst 0, 1) := by decide +kernel
theorem dX5_runAll_16 : decode cX5_runAll 16 = .ok (.istore_n 1, 1) := by decide +kernel
theorem dX5_runAll_17 : decode cX5_runAll 17 = .ok (.iconst 0, 1) := by decide +kernel
theorem dX5_runAll_18 : decode cX5_runAll 18 = .ok (.istore_n 2, 1) := by decide +kernel
theorem dX5_runAll_19 : decode cX5_runAll 19 = .ok (.iload_n 2, 1) := by decide +kernel
theorem dX5_runAll_20 : decode cX5_runAll 20 = .ok (.aload_n 0, 1) := by decide +kernel
theorem dX5_runAll_21 : decode cX5_runAll 21 = .ok (.getfield 64, 3) := by decide +kernel
theorem dX5_runAll_24 : decode cX5_runAll 24 = .ok (.if_icmp .ge 58, 3) := by decide +kernel
theorem dX5_runAll_27 : decode cX5_runAll 27 = .ok (.aload_n 0, 1) := by decide +kernel
theorem dX5_runAll_28 : decode cX5_runAll 28 = .ok (.getfield 77, 3) := by decide +kernel
theorem dX5_runAll_31 : decode cX5_runAll 31 = .ok (.getfield 219, 3) := by decide +kernel
theorem dX5_runAll_34 : decode cX5_runAll 34 = .ok (.iload_n 2, 1) := by decide +kernel
theorem dX5_runAll_35 : decode cX5_runAll 35 = .ok (.iaload, 1) := by decide +kernel
theorem dX5_runAll_36 : decode cX5_runAll 36 = .ok (.istore_n 3, 1) := by decide +kernel
theorem dX5_runAll_37 : decode cX5_runAll 37 = .ok (.aload_n 0, 1) := by decide +kernel
theorem dX5_runAll_38 : decode cX5_runAll 38 = .ok (.aload_n 0, 1) := by decide +kernel
theorem dX5_runAll_39 : decode cX5_runAll 39 = .ok (.getfield 57, 3) := by decide +kernel
theorem dX5_runAll_42 : decode cX5_runAll 42 = .ok (.iload_n 3, 1) := by decide +kernel
theorem dX5_runAll_43 : decode cX5_runAll 43 = .ok (.iaload, 1) := by decide +kernel
theorem dX5_runAll_44 : decode cX5_runAll 44 = .ok (.aload_n 0, 1) := by decide +kernel
theorem dX5_runAll_45 : decode cX5_runAll 45 = .ok (.getfield 61, 3) := by decide +kernel
theorem dX5_runAll_48 : decode cX5_runAll 48 = .ok (.iload_n 3, 1) := by decide +kernel
theorem dX5_runAll_49 : decode cX5_runAll 49 = .ok (.iaload, 1) := by decide +kernel
theorem dX5_runAll_50 : decode cX5_runAll 50 = .ok (.invokevirtual 187, 3) := by decide +kernel
theorem dX5_runAll_53 : decode cX5_runAll 53 = .ok (.ifCond .eq 23, 3) := by decide +kernel
theorem dX5_runAll_56 : decode cX5_runAll 56 = .ok (.aload_n 0, 1) := by decide +kernel
theorem dX5_runAll_57 : decode cX5_runAll 57 = .ok (.aload_n 0, 1) := by decide +kernel
theorem dX5_runAll_58 : decode cX5_runAll 58 = .ok (.getfield 57, 3) := by decide +kernel
theorem dX5_runAll_61 : decode cX5_runAll 61 = .ok (.iload_n 3, 1) := by decide +kernel
theorem dX5_runAll_62 : decode cX5_runAll 62 = .ok (.iaload, 1) := by decide +kernel
theorem dX5_runAll_63 : decode cX5_runAll 63 = .ok (.aload_n 0, 1) := by decide +kernel
theorem dX5_runAll_64 : decode cX5_runAll 64 = .ok (.getfield 61, 3) := by decide +kernel
theorem dX5_runAll_67 : decode cX5_runAll 67 = .ok (.iload_n 3, 1) := by decide +kernel
theorem dX5_runAll_68 : decode cX5_runAll 68 = .ok (.iaload, 1) := by decide +kernel
theorem dX5_runAll_69 : decode cX5_runAll 69 = .ok (.invokevirtual 193, 3) := by decide +kernel
theorem dX5_runAll_72 : decode cX5_runAll 72 = .ok (.pop, 1) := by decide +kernel
theorem dX5_runAll_73 : decode cX5_runAll 73 = .ok (.iinc 1 1, 3) := by decide +kernel
theorem dX5_runAll_76 : decode cX5_runAll 76 = .ok (.iinc 2 1, 3) := by decide +kernel
theorem dX5_runAll_79 : decode cX5_runAll 79 = .ok (.goto (-60), 3) := by decide +kernel
theorem dX5_runAll_82 : decode cX5_runAll 82 = .ok (.aload_n 0, 1) := by decide +kernel
theorem dX5_runAll_83 : decode cX5_runAll 83 = .ok (.iconst 0, 1) := by decide +kernel
theorem dX5_runAll_84 : decode cX5_runAll 84 = .ok (.putfield 64, 3) := by decide +kernel
theorem dX5_runAll_87 : decode cX5_runAll 87 = .ok (.iload_n 1, 1) := by decide +kernel
theorem dX5_runAll_88 : decode cX5_runAll 88 = .ok (.ireturn, 1) := by decide +kernel
theorem dX5_slits_0 : decode cX5_slits 0 = .ok (.aload_n 0, 1) := by decide +kernel
theorem dX5_slits_1 : decode cX5_slits 1 = .ok (.iload_n 1, 1) := by decide +kernel
theorem dX5_slits_2 : decode cX5_slits 2 = .ok (.invokevirtual 98, 3) := by decide +kernel
theorem dX5_slits_5 : decode cX5_slits 5 = .ok (.aload_n 0, 1) := by decide +kernel
theorem dX5_slits_6 : decode cX5_slits 6 = .ok (.getfield 11, 3) := by decide +kernel
theorem dX5_slits_9 : decode cX5_slits 9 = .ok (.iload_n 1, 1) := by decide +kernel
theorem dX5_slits_10 : decode cX5_slits 10 = .ok (.aaload, 1) := by decide +kernel
theorem dX5_slits_11 : decode cX5_slits 11 = .ok (.getfield 222, 3) := by decide +kernel
theorem dX5_slits_14 : decode cX5_slits 14 = .ok (.ireturn, 1) := by decide +kernel
theorem dX5_slitWeight_0 : decode cX5_slitWeight 0 = .ok (.aload_n 0, 1) := by decide +kernel
theorem dX5_slitWeight_1 : decode cX5_slitWeight 1 = .ok (.iload_n 1, 1) := by decide +kernel
theorem dX5_slitWeight_2 : decode cX5_slitWeight 2 = .ok (.iload_n 2, 1) := by decide +kernel
theorem dX5_slitWeight_3 : decode cX5_slitWeight 3 = .ok (.invokevirtual 225, 3) := by decide +kernel
theorem dX5_slitWeight_6 : decode cX5_slitWeight 6 = .ok (.aload_n 0, 1) := by decide +kernel
theorem dX5_slitWeight_7 : decode cX5_slitWeight 7 = .ok (.getfield 11, 3) := by decide +kernel
theorem dX5_slitWeight_10 : decode cX5_slitWeight 10 = .ok (.iload_n 1, 1) := by decide +kernel
theorem dX5_slitWeight_11 : decode cX5_slitWeight 11 = .ok (.aaload, 1) := by decide +kernel
theorem dX5_slitWeight_12 : decode cX5_slitWeight 12 = .ok (.getfield 228, 3) := by decide +kernel
theorem dX5_slitWeight_15 : decode cX5_slitWeight 15 = .ok (.iload_n 2, 1) := by decide +kernel
theorem dX5_slitWeight_16 : decode cX5_slitWeight 16 = .ok (.iaload, 1) := by decide +kernel
theorem dX5_slitWeight_17 : decode cX5_slitWeight 17 = .ok (.ireturn, 1) := by decide +kernel
theorem dX5_slitOrder_0 : decode cX5_slitOrder 0 = .ok (.aload_n 0, 1) := by decide +kernel
theorem dX5_slitOrder_1 : decode cX5_slitOrder 1 = .ok (.iload_n 1, 1) := by decide +kernel
theorem dX5_slitOrder_2 : decode cX5_slitOrder 2 = .ok (.iload_n 2, 1) := by decide +kernel
theorem dX5_slitOrder_3 : decode cX5_slitOrder 3 = .ok (.invokevirtual 225, 3) := by decide +kernel
theorem dX5_slitOrder_6 : decode cX5_slitOrder 6 = .ok (.aload_n 0, 1) := by decide +kernel
theorem dX5_slitOrder_7 : decode cX5_slitOrder 7 = .ok (.getfield 11, 3) := by decide +kernel
theorem dX5_slitOrder_10 : decode cX5_slitOrder 10 = .ok (.iload_n 1, 1) := by decide +kernel
theorem dX5_slitOrder_11 : decode cX5_slitOrder 11 = .ok (.aaload, 1) := by decide +kernel
theorem dX5_slitOrder_12 : decode cX5_slitOrder 12 = .ok (.getfield 231, 3) := by decide +kernel
theorem dX5_slitOrder_15 : decode cX5_slitOrder 15 = .ok (.iload_n 2, 1) := by decide +kernel
theorem dX5_slitOrder_16 : decode cX5_slitOrder 16 = .ok (.iaload, 1) := by decide +kernel
theorem dX5_slitOrder_17 : decode cX5_slitOrder 17 = .ok (.ireturn, 1) := by decide +kernel
theorem dX5_lost_0 : decode cX5_lost 0 = .ok (.aload_n 0, 1) := by decide +kernel
theorem dX5_lost_1 : decode cX5_lost 1 = .ok (.iload_n 1, 1) := by decide +kernel
theorem dX5_lost_2 : decode cX5_lost 2 = .ok (.invokevirtual 98, 3) := by decide +kernel
theorem dX5_lost_5 : decode cX5_lost 5 = .ok (.iload_n 2, 1) := by decide +kernel
theorem dX5_lost_6 : decode cX5_lost 6 = .ok (.iconst 0, 1) := by decide +kernel
theorem dX5_lost_7 : decode cX5_lost 7 = .ok (.iconst 2, 1) := by decide +kernel
theorem dX5_lost_8 : decode cX5_lost 8 = .ok (.invokestatic 83, 3) := by decide +kernel
theorem dX5_lost_11 : decode cX5_lost 11 = .ok (.iload_n 2, 1) := by decide +kernel
theorem dX5_lost_12 : decode cX5_lost 12 = .ok (.ifCond .ne 13, 3) := by decide +kernel
theorem dX5_lost_15 : decode cX5_lost 15 = .ok (.aload_n 0, 1) := by decide +kernel
theorem dX5_lost_16 : decode cX5_lost 16 = .ok (.getfield 11, 3) := by decide +kernel
theorem dX5_lost_19 : decode cX5_lost 19 = .ok (.iload_n 1, 1) := by decide +kernel
theorem dX5_lost_20 : decode cX5_lost 20 = .ok (.aaload, 1) := by decide +kernel
theorem dX5_lost_21 : decode cX5_lost 21 = .ok (.getfield 234, 3) := by decide +kernel
theorem dX5_lost_24 : decode cX5_lost 24 = .ok (.ireturn, 1) := by decide +kernel
theorem dX5_lost_25 : decode cX5_lost 25 = .ok (.iload_n 2, 1) := by decide +kernel
theorem dX5_lost_26 : decode cX5_lost 26 = .ok (.iconst 1, 1) := by decide +kernel
theorem dX5_lost_27 : decode cX5_lost 27 = .ok (.if_icmp .ne 15, 3) := by decide +kernel
theorem dX5_lost_30 : decode cX5_lost 30 = .ok (.aload_n 0, 1) := by decide +kernel
theorem dX5_lost_31 : decode cX5_lost 31 = .ok (.getfield 11, 3) := by decide +kernel
theorem dX5_lost_34 : decode cX5_lost 34 = .ok (.iload_n 1, 1) := by decide +kernel
theorem dX5_lost_35 : decode cX5_lost 35 = .ok (.aaload, 1) := by decide +kernel
theorem dX5_lost_36 : decode cX5_lost 36 = .ok (.getfield 237, 3) := by decide +kernel
theorem dX5_lost_39 : decode cX5_lost 39 = .ok (.goto 12, 3) := by decide +kernel
theorem dX5_lost_42 : decode cX5_lost 42 = .ok (.aload_n 0, 1) := by decide +kernel
theorem dX5_lost_43 : decode cX5_lost 43 = .ok (.getfield 11, 3) := by decide +kernel
theorem dX5_lost_46 : decode cX5_lost 46 = .ok (.iload_n 1, 1) := by decide +kernel
theorem dX5_lost_47 : decode cX5_lost 47 = .ok (.aaload, 1) := by decide +kernel
theorem dX5_lost_48 : decode cX5_lost 48 = .ok (.getfield 240, 3) := by decide +kernel
theorem dX5_lost_51 : decode cX5_lost 51 = .ok (.ireturn, 1) := by decide +kernel
theorem dX5_delivered_0 : decode cX5_delivered 0 = .ok (.aload_n 0, 1) := by decide +kernel
theorem dX5_delivered_1 : decode cX5_delivered 1 = .ok (.iload_n 1, 1) := by decide +kernel
theorem dX5_delivered_2 : decode cX5_delivered 2 = .ok (.invokevirtual 243, 3) := by decide +kernel
theorem dX5_delivered_5 : decode cX5_delivered 5 = .ok (.aload_n 0, 1) := by decide +kernel
theorem dX5_delivered_6 : decode cX5_delivered 6 = .ok (.getfield 21, 3) := by decide +kernel
theorem dX5_delivered_9 : decode cX5_delivered 9 = .ok (.iload_n 1, 1) := by decide +kernel
theorem dX5_delivered_10 : decode cX5_delivered 10 = .ok (.aaload, 1) := by decide +kernel
theorem dX5_delivered_11 : decode cX5_delivered 11 = .ok (.getfield 246, 3) := by decide +kernel
theorem dX5_delivered_14 : decode cX5_delivered 14 = .ok (.ireturn, 1) := by decide +kernel
theorem dX5_heatOf_0 : decode cX5_heatOf 0 = .ok (.aload_n 0, 1) := by decide +kernel
theorem dX5_heatOf_1 : decode cX5_heatOf 1 = .ok (.iload_n 1, 1) := by decide +kernel
theorem dX5_heatOf_2 : decode cX5_heatOf 2 = .ok (.invokevirtual 243, 3) := by decide +kernel
theorem dX5_heatOf_5 : decode cX5_heatOf 5 = .ok (.aload_n 0, 1) := by decide +kernel
theorem dX5_heatOf_6 : decode cX5_heatOf 6 = .ok (.getfield 21, 3) := by decide +kernel
theorem dX5_heatOf_9 : decode cX5_heatOf 9 = .ok (.iload_n 1, 1) := by decide +kernel
theorem dX5_heatOf_10 : decode cX5_heatOf 10 = .ok (.aaload, 1) := by decide +kernel
theorem dX5_heatOf_11 : decode cX5_heatOf 11 = .ok (.getfield 249, 3) := by decide +kernel
theorem dX5_heatOf_14 : decode cX5_heatOf 14 = .ok (.ireturn, 1) := by decide +kernel
theorem dX5_stock_0 : decode cX5_stock 0 = .ok (.iconst 0, 1) := by decide +kernel
theorem dX5_stock_1 : decode cX5_stock 1 = .ok (.istore_n 2, 1) := by decide +kernel
theorem dX5_stock_2 : decode cX5_stock 2 = .ok (.iconst 0, 1) := by decide +kernel
theorem dX5_stock_3 : decode cX5_stock 3 = .ok (.istore_n 3, 1) := by decide +kernel
theorem dX5_stock_4 : decode cX5_stock 4 = .ok (.iload_n 3, 1) := by decide +kernel
theorem dX5_stock_5 : decode cX5_stock 5 = .ok (.aload_n 0, 1) := by decide +kernel
theorem dX5_stock_6 : decode cX5_stock 6 = .ok (.getfield 15, 3) := by decide +kernel
theorem dX5_stock_9 : decode cX5_stock 9 = .ok (.if_icmp .ge 22, 3) := by decide +kernel
theorem dX5_stock_12 : decode cX5_stock 12 = .ok (.iload_n 2, 1) := by decide +kernel
theorem dX5_stock_13 : decode cX5_stock 13 = .ok (.aload_n 0, 1) := by decide +kernel
theorem dX5_stock_14 : decode cX5_stock 14 = .ok (.getfield 11, 3) := by decide +kernel
theorem dX5_stock_17 : decode cX5_stock 17 = .ok (.iload_n 3, 1) := by decide +kernel
theorem dX5_stock_18 : decode cX5_stock 18 = .ok (.aaload, 1) := by decide +kernel
theorem dX5_stock_19 : decode cX5_stock 19 = .ok (.iload_n 1, 1) := by decide +kernel
theorem dX5_stock_20 : decode cX5_stock 20 = .ok (.invokevirtual 252, 3) := by decide +kernel
theorem dX5_stock_23 : decode cX5_stock 23 = .ok (.iadd, 1) := by decide +kernel
theorem dX5_stock_24 : decode cX5_stock 24 = .ok (.istore_n 2, 1) := by decide +kernel
theorem dX5_stock_25 : decode cX5_stock 25 = .ok (.iinc 3 1, 3) := by decide +kernel
theorem dX5_stock_28 : decode cX5_stock 28 = .ok (.goto (-24), 3) := by decide +kernel
theorem dX5_stock_31 : decode cX5_stock 31 = .ok (.iload_n 2, 1) := by decide +kernel
theorem dX5_stock_32 : decode cX5_stock 32 = .ok (.ireturn, 1) := by decide +kernel
theorem dX5_requireRange_0 : decode cX5_requireRange 0 = .ok (.iload_n 0, 1) := by decide +kernel
theorem dX5_requireRange_1 : decode cX5_requireRange 1 = .ok (.iload_n 1, 1) := by decide +kernel
theorem dX5_requireRange_2 : decode cX5_requireRange 2 = .ok (.if_icmp .lt 8, 3) := by decide +kernel
theorem dX5_requireRange_5 : decode cX5_requireRange 5 = .ok (.iload_n 0, 1) := by decide +kernel
theorem dX5_requireRange_6 : decode cX5_requireRange 6 = .ok (.iload_n 2, 1) := by decide +kernel
theorem dX5_requireRange_7 : decode cX5_requireRange 7 = .ok (.if_icmp .le 14, 3) := by decide +kernel
theorem dX5_requireRange_10 : decode cX5_requireRange 10 = .ok (.new 255, 3) := by decide +kernel
theorem dX5_requireRange_13 : decode cX5_requireRange 13 = .ok (.dup, 1) := by decide +kernel
theorem dX5_requireRange_14 : decode cX5_requireRange 14 = .ok (.ldc_w 257, 3) := by decide +kernel
theorem dX5_requireRange_17 : decode cX5_requireRange 17 = .ok (.invokespecial 259, 3) := by decide +kernel
theorem dX5_requireRange_20 : decode cX5_requireRange 20 = .ok (.athrow, 1) := by decide +kernel
theorem dX5_requireRange_21 : decode cX5_requireRange 21 = .ok (.return_, 1) := by decide +kernel
theorem dX5_hasCoil_0 : decode cX5_hasCoil 0 = .ok (.iload_n 1, 1) := by decide +kernel
theorem dX5_hasCoil_1 : decode cX5_hasCoil 1 = .ok (.ifCond .lt 15, 3) := by decide +kernel
theorem dX5_hasCoil_4 : decode cX5_hasCoil 4 = .ok (.iload_n 1, 1) := by decide +kernel
theorem dX5_hasCoil_5 : decode cX5_hasCoil 5 = .ok (.aload_n 0, 1) := by decide +kernel
theorem dX5_hasCoil_6 : decode cX5_hasCoil 6 = .ok (.getfield 15, 3) := by decide +kernel
theorem dX5_hasCoil_9 : decode cX5_hasCoil 9 = .ok (.if_icmp .ge 7, 3) := by decide +kernel
theorem dX5_hasCoil_12 : decode cX5_hasCoil 12 = .ok (.iconst 1, 1) := by decide +kernel
theorem dX5_hasCoil_13 : decode cX5_hasCoil 13 = .ok (.goto 4, 3) := by decide +kernel
theorem dX5_hasCoil_16 : decode cX5_hasCoil 16 = .ok (.iconst 0, 1) := by decide +kernel
theorem dX5_hasCoil_17 : decode cX5_hasCoil 17 = .ok (.ireturn, 1) := by decide +kernel
theorem dX5_hasPattern_0 : decode cX5_hasPattern 0 = .ok (.iload_n 1, 1) := by decide +kernel
theorem dX5_hasPattern_1 : decode cX5_hasPattern 1 = .ok (.ifCond .lt 15, 3) := by decide +kernel
theorem dX5_hasPattern_4 : decode cX5_hasPattern 4 = .ok (.iload_n 1, 1) := by decide +kernel
theorem dX5_hasPattern_5 : decode cX5_hasPattern 5 = .ok (.aload_n 0, 1) := by decide +kernel
theorem dX5_hasPattern_6 : decode cX5_hasPattern 6 = .ok (.getfield 34, 3) := by decide +kernel
theorem dX5_hasPattern_9 : decode cX5_hasPattern 9 = .ok (.if_icmp .ge 7, 3) := by decide +kernel
theorem dX5_hasPattern_12 : decode cX5_hasPattern 12 = .ok (.iconst 1, 1) := by decide +kernel
theorem dX5_hasPattern_13 : decode cX5_hasPattern 13 = .ok (.goto 4, 3) := by decide +kernel
theorem dX5_hasPattern_16 : decode cX5_hasPattern 16 = .ok (.iconst 0, 1) := by decide +kernel
theorem dX5_hasPattern_17 : decode cX5_hasPattern 17 = .ok (.ireturn, 1) := by decide +kernel
theorem dX5_requireCoil_0 : decode cX5_requireCoil 0 = .ok (.aload_n 0, 1) := by decide +kernel
theorem dX5_requireCoil_1 : decode cX5_requireCoil 1 = .ok (.iload_n 1, 1) := by decide +kernel
theorem dX5_requireCoil_2 : decode cX5_requireCoil 2 = .ok (.invokevirtual 260, 3) := by decide +kernel
theorem dX5_requireCoil_5 : decode cX5_requireCoil 5 = .ok (.ifCond .ne 14, 3) := by decide +kernel
theorem dX5_requireCoil_8 : decode cX5_requireCoil 8 = .ok (.new 145, 3) := by decide +kernel
theorem dX5_requireCoil_11 : decode cX5_requireCoil 11 = .ok (.dup, 1) := by decide +kernel
theorem dX5_requireCoil_12 : decode cX5_requireCoil 12 = .ok (.ldc_w 263, 3) := by decide +kernel
theorem dX5_requireCoil_15 : decode cX5_requireCoil 15 = .ok (.invokespecial 149, 3) := by decide +kernel
theorem dX5_requireCoil_18 : decode cX5_requireCoil 18 = .ok (.athrow, 1) := by decide +kernel
theorem dX5_requireCoil_19 : decode cX5_requireCoil 19 = .ok (.return_, 1) := by decide +kernel
theorem dX5_requirePattern_0 : decode cX5_requirePattern 0 = .ok (.aload_n 0, 1) := by decide +kernel
theorem dX5_requirePattern_1 : decode cX5_requirePattern 1 = .ok (.iload_n 1, 1) := by decide +kernel
theorem dX5_requirePattern_2 : decode cX5_requirePattern 2 = .ok (.invokevirtual 265, 3) := by decide +kernel
theorem dX5_requirePattern_5 : decode cX5_requirePattern 5 = .ok (.ifCond .ne 14, 3) := by decide +kernel
theorem dX5_requirePattern_8 : decode cX5_requirePattern 8 = .ok (.new 145, 3) := by decide +kernel
theorem dX5_requirePattern_11 : decode cX5_requirePattern 11 = .ok (.dup, 1) := by decide +kernel
theorem dX5_requirePattern_12 : decode cX5_requirePattern 12 = .ok (.ldc_w 268, 3) := by decide +kernel
theorem dX5_requirePattern_15 : decode cX5_requirePattern 15 = .ok (.invokespecial 149, 3) := by decide +kernel
theorem dX5_requirePattern_18 : decode cX5_requirePattern 18 = .ok (.athrow, 1) := by decide +kernel
theorem dX5_requirePattern_19 : decode cX5_requirePattern 19 = .ok (.return_, 1) := by decide +kernel
theorem dX5_requireOrder_0 : decode cX5_requireOrder 0 = .ok (.iload_n 1, 1) := by decide +kernel
theorem dX5_requireOrder_1 : decode cX5_requireOrder 1 = .ok (.ifCond .lt 11, 3) := by decide +kernel
theorem dX5_requireOrder_4 : decode cX5_requireOrder 4 = .ok (.iload_n 1, 1) := by decide +kernel
theorem dX5_requireOrder_5 : decode cX5_requireOrder 5 = .ok (.aload_n 0, 1) := by decide +kernel
theorem dX5_requireOrder_6 : decode cX5_requireOrder 6 = .ok (.getfield 25, 3) := by decide +kernel
theorem dX5_requireOrder_9 : decode cX5_requireOrder 9 = .ok (.if_icmp .lt 14, 3) := by decide +kernel
theorem dX5_requireOrder_12 : decode cX5_requireOrder 12 = .ok (.new 145, 3) := by decide +kernel
theorem dX5_requireOrder_15 : decode cX5_requireOrder 15 = .ok (.dup, 1) := by decide +kernel
theorem dX5_requireOrder_16 : decode cX5_requireOrder 16 = .ok (.ldc_w 270, 3) := by decide +kernel
theorem dX5_requireOrder_19 : decode cX5_requireOrder 19 = .ok (.invokespecial 149, 3) := by decide +kernel
theorem dX5_requireOrder_22 : decode cX5_requireOrder 22 = .ok (.athrow, 1) := by decide +kernel
theorem dX5_requireOrder_23 : decode cX5_requireOrder 23 = .ok (.return_, 1) := by decide +kernel
theorem dX5_requireSlit_0 : decode cX5_requireSlit 0 = .ok (.aload_n 0, 1) := by decide +kernel
theorem dX5_requireSlit_1 : decode cX5_requireSlit 1 = .ok (.iload_n 1, 1) := by decide +kernel
theorem dX5_requireSlit_2 : decode cX5_requireSlit 2 = .ok (.invokevirtual 98, 3) := by decide +kernel
theorem dX5_requireSlit_5 : decode cX5_requireSlit 5 = .ok (.aload_n 0, 1) := by decide +kernel
theorem dX5_requireSlit_6 : decode cX5_requireSlit 6 = .ok (.getfield 11, 3) := by decide +kernel
theorem dX5_requireSlit_9 : decode cX5_requireSlit 9 = .ok (.iload_n 1, 1) := by decide +kernel
theorem dX5_requireSlit_10 : decode cX5_requireSlit 10 = .ok (.aaload, 1) := by decide +kernel
theorem dX5_requireSlit_11 : decode cX5_requireSlit 11 = .ok (.iload_n 2, 1) := by decide +kernel
theorem dX5_requireSlit_12 : decode cX5_requireSlit 12 = .ok (.invokevirtual 272, 3) := by decide +kernel
theorem dX5_requireSlit_15 : decode cX5_requireSlit 15 = .ok (.ifCond .ne 14, 3) := by decide +kernel
theorem dX5_requireSlit_18 : decode cX5_requireSlit 18 = .ok (.new 145, 3) := by decide +kernel
theorem dX5_requireSlit_21 : decode cX5_requireSlit 21 = .ok (.dup, 1) := by decide +kernel
theorem dX5_requireSlit_22 : decode cX5_requireSlit 22 = .ok (.ldc_w 273, 3) := by decide +kernel
theorem dX5_requireSlit_25 : decode cX5_requireSlit 25 = .ok (.invokespecial 149, 3) := by decide +kernel
theorem dX5_requireSlit_28 : decode cX5_requireSlit 28 = .ok (.athrow, 1) := by decide +kernel
theorem dX5_requireSlit_29 : decode cX5_requireSlit 29 = .ok (.return_, 1) := by decide +kernel
theorem dX5_roomOf_0 : decode cX5_roomOf 0 = .ok (.aload_n 1, 1) := by decide +kernel
theorem dX5_roomOf_1 : decode cX5_roomOf 1 = .ok (.getfield 275, 3) := by decide +kernel
theorem dX5_roomOf_4 : decode cX5_roomOf 4 = .ok (.iconst 2, 1) := by decide +kernel
theorem dX5_roomOf_5 : decode cX5_roomOf 5 = .ok (.aload_n 0, 1) := by decide +kernel
theorem dX5_roomOf_6 : decode cX5_roomOf 6 = .ok (.getfield 42, 3) := by decide +kernel
theorem dX5_roomOf_9 : decode cX5_roomOf 9 = .ok (.imul, 1) := by decide +kernel
theorem dX5_roomOf_10 : decode cX5_roomOf 10 = .ok (.isub, 1) := by decide +kernel
theorem dX5_roomOf_11 : decode cX5_roomOf 11 = .ok (.ireturn, 1) := by decide +kernel
theorem dX5_canBeCutFrom_0 : decode cX5_canBeCutFrom 0 = .ok (.aload_n 1, 1) := by decide +kernel
theorem dX5_canBeCutFrom_1 : decode cX5_canBeCutFrom 1 = .ok (.invokevirtual 278, 3) := by decide +kernel
theorem dX5_canBeCutFrom_4 : decode cX5_canBeCutFrom 4 = .ok (.aload_n 0, 1) := by decide +kernel
theorem dX5_canBeCutFrom_5 : decode cX5_canBeCutFrom 5 = .ok (.aload_n 2, 1) := by decide +kernel
theorem dX5_canBeCutFrom_6 : decode cX5_canBeCutFrom 6 = .ok (.invokevirtual 170, 3) := by decide +kernel
theorem dX5_canBeCutFrom_9 : decode cX5_canBeCutFrom 9 = .ok (.if_icmp .gt 18, 3) := by decide +kernel
theorem dX5_canBeCutFrom_12 : decode cX5_canBeCutFrom 12 = .ok (.aload_n 1, 1) := by decide +kernel
theorem dX5_canBeCutFrom_13 : decode cX5_canBeCutFrom 13 = .ok (.invokevirtual 281, 3) := by decide +kernel
theorem dX5_canBeCutFrom_16 : decode cX5_canBeCutFrom 16 = .ok (.aload_n 0, 1) := by decide +kernel
theorem dX5_canBeCutFrom_17 : decode cX5_canBeCutFrom 17 = .ok (.getfield 48, 3) := by decide +kernel
theorem dX5_canBeCutFrom_20 : decode cX5_canBeCutFrom 20 = .ok (.if_icmp .gt 7, 3) := by decide +kernel
theorem dX5_canBeCutFrom_23 : decode cX5_canBeCutFrom 23 = .ok (.iconst 1, 1) := by decide +kernel
theorem dX5_canBeCutFrom_24 : decode cX5_canBeCutFrom 24 = .ok (.goto 4, 3) := by decide +kernel
theorem dX5_canBeCutFrom_27 : decode cX5_canBeCutFrom 27 = .ok (.iconst 0, 1) := by decide +kernel
theorem dX5_canBeCutFrom_28 : decode cX5_canBeCutFrom 28 = .ok (.ireturn, 1) := by decide +kernel
theorem dX5_offerWidthsFor_0 : decode cX5_offerWidthsFor 0 = .ok (.aload_n 0, 1) := by decide +kernel
theorem dX5_offerWidthsFor_1 : decode cX5_offerWidthsFor 1 = .ok (.getfield 70, 3) := by decide +kernel
theorem dX5_offerWidthsFor_4 : decode cX5_offerWidthsFor 4 = .ok (.invokevirtual 284, 3) := by decide +kernel
theorem dX5_offerWidthsFor_7 : decode cX5_offerWidthsFor 7 = .ok (.iconst 0, 1) := by decide +kernel
theorem dX5_offerWidthsFor_8 : decode cX5_offerWidthsFor 8 = .ok (.istore_n 2, 1) := by decide +kernel
theorem dX5_offerWidthsFor_9 : decode cX5_offerWidthsFor 9 = .ok (.iload_n 2, 1) := by decide +kernel
theorem dX5_offerWidthsFor_10 : decode cX5_offerWidthsFor 10 = .ok (.aload_n 0, 1) := by decide +kernel
theorem dX5_offerWidthsFor_11 : decode cX5_offerWidthsFor 11 = .ok (.getfield 25, 3) := by decide +kernel
theorem dX5_offerWidthsFor_14 : decode cX5_offerWidthsFor 14 = .ok (.if_icmp .ge 41, 3) := by decide +kernel
theorem dX5_offerWidthsFor_17 : decode cX5_offerWidthsFor 17 = .ok (.aload_n 0, 1) := by decide +kernel
theorem dX5_offerWidthsFor_18 : decode cX5_offerWidthsFor 18 = .ok (.getfield 21, 3) := by decide +kernel
theorem dX5_offerWidthsFor_21 : decode cX5_offerWidthsFor 21 = .ok (.iload_n 2, 1) := by decide +kernel
theorem dX5_offerWidthsFor_22 : decode cX5_offerWidthsFor 22 = .ok (.aaload, 1) := by decide +kernel
theorem dX5_offerWidthsFor_23 : decode cX5_offerWidthsFor 23 = .ok (.aload_n 1, 1) := by decide +kernel
theorem dX5_offerWidthsFor_24 : decode cX5_offerWidthsFor 24 = .ok (.getfield 287, 3) := by decide +kernel
theorem dX5_offerWidthsFor_27 : decode cX5_offerWidthsFor 27 = .ok (.invokevirtual 288, 3) := by decide +kernel
theorem dX5_offerWidthsFor_30 : decode cX5_offerWidthsFor 30 = .ok (.ifCond .eq 19, 3) := by decide +kernel
theorem dX5_offerWidthsFor_33 : decode cX5_offerWidthsFor 33 = .ok (.aload_n 0, 1) := by decide +kernel
theorem dX5_offerWidthsFor_34 : decode cX5_offerWidthsFor 34 = .ok (.getfield 70, 3) := by decide +kernel
theorem dX5_offerWidthsFor_37 : decode cX5_offerWidthsFor 37 = .ok (.aload_n 0, 1) := by decide +kernel
theorem dX5_offerWidthsFor_38 : decode cX5_offerWidthsFor 38 = .ok (.getfield 21, 3) := by decide +kernel
theorem dX5_offerWidthsFor_41 : decode cX5_offerWidthsFor 41 = .ok (.iload_n 2, 1) := by decide +kernel
theorem dX5_offerWidthsFor_42 : decode cX5_offerWidthsFor 42 = .ok (.aaload, 1) := by decide +kernel
theorem dX5_offerWidthsFor_43 : decode cX5_offerWidthsFor 43 = .ok (.getfield 291, 3) := by decide +kernel
theorem dX5_offerWidthsFor_46 : decode cX5_offerWidthsFor 46 = .ok (.invokevirtual 292, 3) := by decide +kernel
theorem dX5_offerWidthsFor_49 : decode cX5_offerWidthsFor 49 = .ok (.iinc 2 1, 3) := by decide +kernel
theorem dX5_offerWidthsFor_52 : decode cX5_offerWidthsFor 52 = .ok (.goto (-43), 3) := by decide +kernel
theorem dX5_offerWidthsFor_55 : decode cX5_offerWidthsFor 55 = .ok (.return_, 1) := by decide +kernel
theorem dX5_canBeRun_0 : decode cX5_canBeRun 0 = .ok (.aload_n 0, 1) := by decide +kernel
theorem dX5_canBeRun_1 : decode cX5_canBeRun 1 = .ok (.iload_n 1, 1) := by decide +kernel
theorem dX5_canBeRun_2 : decode cX5_canBeRun 2 = .ok (.invokevirtual 260, 3) := by decide +kernel
theorem dX5_canBeRun_5 : decode cX5_canBeRun 5 = .ok (.ifCond .eq 46, 3) := by decide +kernel
theorem dX5_canBeRun_8 : decode cX5_canBeRun 8 = .ok (.aload_n 0, 1) := by decide +kernel
theorem dX5_canBeRun_9 : decode cX5_canBeRun 9 = .ok (.iload_n 2, 1) := by decide +kernel
theorem dX5_canBeRun_10 : decode cX5_canBeRun 10 = .ok (.invokevirtual 265, 3) := by decide +kernel
theorem dX5_canBeRun_13 : decode cX5_canBeRun 13 = .ok (.ifCond .eq 38, 3) := by decide +kernel
theorem dX5_canBeRun_16 : decode cX5_canBeRun 16 = .ok (.aload_n 0, 1) := by decide +kernel
theorem dX5_canBeRun_17 : decode cX5_canBeRun 17 = .ok (.getfield 11, 3) := by decide +kernel
theorem dX5_canBeRun_20 : decode cX5_canBeRun 20 = .ok (.iload_n 1, 1) := by decide +kernel
theorem dX5_canBeRun_21 : decode cX5_canBeRun 21 = .ok (.aaload, 1) := by decide +kernel
theorem dX5_canBeRun_22 : decode cX5_canBeRun 22 = .ok (.invokevirtual 105, 3) := by decide +kernel
theorem dX5_canBeRun_25 : decode cX5_canBeRun 25 = .ok (.ifCond .ne 26, 3) := by decide +kernel
theorem dX5_canBeRun_28 : decode cX5_canBeRun 28 = .ok (.aload_n 0, 1) := by decide +kernel
theorem dX5_canBeRun_29 : decode cX5_canBeRun 29 = .ok (.aload_n 0, 1) := by decide +kernel
theorem dX5_canBeRun_30 : decode cX5_canBeRun 30 = .ok (.getfield 30, 3) := by decide +kernel
theorem dX5_canBeRun_33 : decode cX5_canBeRun 33 = .ok (.iload_n 2, 1) := by decide +kernel
theorem dX5_canBeRun_34 : decode cX5_canBeRun 34 = .ok (.aaload, 1) := by decide +kernel
theorem dX5_canBeRun_35 : decode cX5_canBeRun 35 = .ok (.aload_n 0, 1) := by decide +kernel
theorem dX5_canBeRun_36 : decode cX5_canBeRun 36 = .ok (.getfield 11, 3) := by decide +kernel
theorem dX5_canBeRun_39 : decode cX5_canBeRun 39 = .ok (.iload_n 1, 1) := by decide +kernel
theorem dX5_canBeRun_40 : decode cX5_canBeRun 40 = .ok (.aaload, 1) := by decide +kernel
theorem dX5_canBeRun_41 : decode cX5_canBeRun 41 = .ok (.invokevirtual 162, 3) := by decide +kernel
theorem dX5_canBeRun_44 : decode cX5_canBeRun 44 = .ok (.ifCond .eq 7, 3) := by decide +kernel
theorem dX5_canBeRun_47 : decode cX5_canBeRun 47 = .ok (.iconst 1, 1) := by decide +kernel
theorem dX5_canBeRun_48 : decode cX5_canBeRun 48 = .ok (.goto 4, 3) := by decide +kernel
theorem dX5_canBeRun_51 : decode cX5_canBeRun 51 = .ok (.iconst 0, 1) := by decide +kernel
theorem dX5_canBeRun_52 : decode cX5_canBeRun 52 = .ok (.ireturn, 1) := by decide +kernel
theorem dX5_slitCoil_0 : decode cX5_slitCoil 0 = .ok (.aload_n 0, 1) := by decide +kernel
theorem dX5_slitCoil_1 : decode cX5_slitCoil 1 = .ok (.dup, 1) := by decide +kernel
theorem dX5_slitCoil_2 : decode cX5_slitCoil 2 = .ok (.getfield 54, 3) := by decide +kernel
theorem dX5_slitCoil_5 : decode cX5_slitCoil 5 = .ok (.aload_n 0, 1) := by decide +kernel
theorem dX5_slitCoil_6 : decode cX5_slitCoil 6 = .ok (.aload_n 0, 1) := by decide +kernel
theorem dX5_slitCoil_7 : decode cX5_slitCoil 7 = .ok (.getfield 51, 3) := by decide +kernel
theorem dX5_slitCoil_10 : decode cX5_slitCoil 10 = .ok (.iload_n 2, 1) := by decide +kernel
theorem dX5_slitCoil_11 : decode cX5_slitCoil 11 = .ok (.invokevirtual 196, 3) := by decide +kernel
theorem dX5_slitCoil_14 : decode cX5_slitCoil 14 = .ok (.iadd, 1) := by decide +kernel
theorem dX5_slitCoil_15 : decode cX5_slitCoil 15 = .ok (.putfield 54, 3) := by decide +kernel
theorem dX5_slitCoil_18 : decode cX5_slitCoil 18 = .ok (.aload_n 0, 1) := by decide +kernel
theorem dX5_slitCoil_19 : decode cX5_slitCoil 19 = .ok (.iload_n 2, 1) := by decide +kernel
theorem dX5_slitCoil_20 : decode cX5_slitCoil 20 = .ok (.putfield 51, 3) := by decide +kernel
theorem dX5_slitCoil_23 : decode cX5_slitCoil 23 = .ok (.aload_n 0, 1) := by decide +kernel
theorem dX5_slitCoil_24 : decode cX5_slitCoil 24 = .ok (.getfield 11, 3) := by decide +kernel
theorem dX5_slitCoil_27 : decode cX5_slitCoil 27 = .ok (.iload_n 1, 1) := by decide +kernel
theorem dX5_slitCoil_28 : decode cX5_slitCoil 28 = .ok (.aaload, 1) := by decide +kernel
theorem dX5_slitCoil_29 : decode cX5_slitCoil 29 = .ok (.aload_n 0, 1) := by decide +kernel
theorem dX5_slitCoil_30 : decode cX5_slitCoil 30 = .ok (.getfield 30, 3) := by decide +kernel
theorem dX5_slitCoil_33 : decode cX5_slitCoil 33 = .ok (.iload_n 2, 1) := by decide +kernel
theorem dX5_slitCoil_34 : decode cX5_slitCoil 34 = .ok (.aaload, 1) := by decide +kernel
theorem dX5_slitCoil_35 : decode cX5_slitCoil 35 = .ok (.aload_n 0, 1) := by decide +kernel
theorem dX5_slitCoil_36 : decode cX5_slitCoil 36 = .ok (.getfield 45, 3) := by decide +kernel
theorem dX5_slitCoil_39 : decode cX5_slitCoil 39 = .ok (.invokevirtual 295, 3) := by decide +kernel
theorem dX5_slitCoil_42 : decode cX5_slitCoil 42 = .ok (.aload_n 0, 1) := by decide +kernel
theorem dX5_slitCoil_43 : decode cX5_slitCoil 43 = .ok (.aload_n 0, 1) := by decide +kernel
theorem dX5_slitCoil_44 : decode cX5_slitCoil 44 = .ok (.getfield 11, 3) := by decide +kernel
theorem dX5_slitCoil_47 : decode cX5_slitCoil 47 = .ok (.iload_n 1, 1) := by decide +kernel
theorem dX5_slitCoil_48 : decode cX5_slitCoil 48 = .ok (.aaload, 1) := by decide +kernel
theorem dX5_slitCoil_49 : decode cX5_slitCoil 49 = .ok (.invokevirtual 299, 3) := by decide +kernel
theorem dX5_slitCoil_52 : decode cX5_slitCoil 52 = .ok (.ireturn, 1) := by decide +kernel
theorem dX5_deliverSlits_0 : decode cX5_deliverSlits 0 = .ok (.iconst 0, 1) := by decide +kernel
theorem dX5_deliverSlits_1 : decode cX5_deliverSlits 1 = .ok (.istore_n 2, 1) := by decide +kernel
theorem dX5_deliverSlits_2 : decode cX5_deliverSlits 2 = .ok (.iconst 0, 1) := by decide +kernel
theorem dX5_deliverSlits_3 : decode cX5_deliverSlits 3 = .ok (.istore_n 3, 1) := by decide +kernel
theorem dX5_deliverSlits_4 : decode cX5_deliverSlits 4 = .ok (.iload_n 3, 1) := by decide +kernel
theorem dX5_deliverSlits_5 : decode cX5_deliverSlits 5 = .ok (.aload_n 1, 1) := by decide +kernel
theorem dX5_deliverSlits_6 : decode cX5_deliverSlits 6 = .ok (.getfield 222, 3) := by decide +kernel
theorem dX5_deliverSlits_9 : decode cX5_deliverSlits 9 = .ok (.if_icmp .ge 62, 3) := by decide +kernel
theorem dX5_deliverSlits_12 : decode cX5_deliverSlits 12 = .ok (.aload_n 0, 1) := by decide +kernel
theorem dX5_deliverSlits_13 : decode cX5_deliverSlits 13 = .ok (.aload_n 1, 1) := by decide +kernel
theorem dX5_deliverSlits_14 : decode cX5_deliverSlits 14 = .ok (.getfield 302, 3) := by decide +kernel
theorem dX5_deliverSlits_17 : decode cX5_deliverSlits 17 = .ok (.iload_n 3, 1) := by decide +kernel
theorem dX5_deliverSlits_18 : decode cX5_deliverSlits 18 = .ok (.iaload, 1) := by decide +kernel
theorem dX5_deliverSlits_19 : decode cX5_deliverSlits 19 = .ok (.aload_n 1, 1) := by decide +kernel
theorem dX5_deliverSlits_20 : decode cX5_deliverSlits 20 = .ok (.getfield 287, 3) := by decide +kernel
theorem dX5_deliverSlits_23 : decode cX5_deliverSlits 23 = .ok (.invokevirtual 305, 3) := by decide +kernel
theorem dX5_deliverSlits_26 : decode cX5_deliverSlits 26 = .ok (.istore 4, 2) := by decide +kernel
theorem dX5_deliverSlits_28 : decode cX5_deliverSlits 28 = .ok (.aload_n 1, 1) := by decide +kernel
theorem dX5_deliverSlits_29 : decode cX5_deliverSlits 29 = .ok (.getfield 231, 3) := by decide +kernel
theorem dX5_deliverSlits_32 : decode cX5_deliverSlits 32 = .ok (.iload_n 3, 1) := by decide +kernel
theorem dX5_deliverSlits_33 : decode cX5_deliverSlits 33 = .ok (.iload 4, 2) := by decide +kernel
theorem dX5_deliverSlits_35 : decode cX5_deliverSlits 35 = .ok (.iastore, 1) := by decide +kernel
theorem dX5_deliverSlits_36 : decode cX5_deliverSlits 36 = .ok (.iload 4, 2) := by decide +kernel
theorem dX5_deliverSlits_38 : decode cX5_deliverSlits 38 = .ok (.iconst (-1), 1) := by decide +kernel
theorem dX5_deliverSlits_39 : decode cX5_deliverSlits 39 = .ok (.if_icmp .eq 26, 3) := by decide +kernel
theorem dX5_deliverSlits_42 : decode cX5_deliverSlits 42 = .ok (.aload_n 0, 1) := by decide +kernel
theorem dX5_deliverSlits_43 : decode cX5_deliverSlits 43 = .ok (.getfield 21, 3) := by decide +kernel
theorem dX5_deliverSlits_46 : decode cX5_deliverSlits 46 = .ok (.iload 4, 2) := by decide +kernel
theorem dX5_deliverSlits_48 : decode cX5_deliverSlits 48 = .ok (.aaload, 1) := by decide +kernel
theorem dX5_deliverSlits_49 : decode cX5_deliverSlits 49 = .ok (.aload_n 1, 1) := by decide +kernel
theorem dX5_deliverSlits_50 : decode cX5_deliverSlits 50 = .ok (.getfield 228, 3) := by decide +kernel
theorem dX5_deliverSlits_53 : decode cX5_deliverSlits 53 = .ok (.iload_n 3, 1) := by decide +kernel
theorem dX5_deliverSlits_54 : decode cX5_deliverSlits 54 = .ok (.iaload, 1) := by decide +kernel
theorem dX5_deliverSlits_55 : decode cX5_deliverSlits 55 = .ok (.aload_n 1, 1) := by decide +kernel
theorem dX5_deliverSlits_56 : decode cX5_deliverSlits 56 = .ok (.getfield 287, 3) := by decide +kernel
theorem dX5_deliverSlits_59 : decode cX5_deliverSlits 59 = .ok (.invokevirtual 308, 3) := by decide +kernel
theorem dX5_deliverSlits_62 : decode cX5_deliverSlits 62 = .ok (.iinc 2 1, 3) := by decide +kernel
theorem dX5_deliverSlits_65 : decode cX5_deliverSlits 65 = .ok (.iinc 3 1, 3) := by decide +kernel
theorem dX5_deliverSlits_68 : decode cX5_deliverSlits 68 = .ok (.goto (-64), 3) := by decide +kernel
theorem dX5_deliverSlits_71 : decode cX5_deliverSlits 71 = .ok (.iload_n 2, 1) := by decide +kernel
theorem dX5_deliverSlits_72 : decode cX5_deliverSlits 72 = .ok (.ireturn, 1) := by decide +kernel
theorem dX5_takerOf_0 : decode cX5_takerOf 0 = .ok (.iconst 0, 1) := by decide +kernel
theorem dX5_takerOf_1 : decode cX5_takerOf 1 = .ok (.istore_n 3, 1) := by decide +kernel
theorem dX5_takerOf_2 : decode cX5_takerOf 2 = .ok (.iload_n 3, 1) := by decide +kernel
theorem dX5_takerOf_3 : decode cX5_takerOf 3 = .ok (.aload_n 0, 1) := by decide +kernel
theorem dX5_takerOf_4 : decode cX5_takerOf 4 = .ok (.getfield 25, 3) := by decide +kernel
theorem dX5_takerOf_7 : decode cX5_takerOf 7 = .ok (.if_icmp .ge 37, 3) := by decide +kernel
theorem dX5_takerOf_10 : decode cX5_takerOf 10 = .ok (.aload_n 0, 1) := by decide +kernel
theorem dX5_takerOf_11 : decode cX5_takerOf 11 = .ok (.getfield 21, 3) := by decide +kernel
theorem dX5_takerOf_14 : decode cX5_takerOf 14 = .ok (.iload_n 3, 1) := by decide +kernel
theorem dX5_takerOf_15 : decode cX5_takerOf 15 = .ok (.aaload, 1) := by decide +kernel
theorem dX5_takerOf_16 : decode cX5_takerOf 16 = .ok (.getfield 291, 3) := by decide +kernel
theorem dX5_takerOf_19 : decode cX5_takerOf 19 = .ok (.iload_n 1, 1) := by decide +kernel
theorem dX5_takerOf_20 : decode cX5_takerOf 20 = .ok (.if_icmp .ne 18, 3) := by decide +kernel
theorem dX5_takerOf_23 : decode cX5_takerOf 23 = .ok (.aload_n 0, 1) := by decide +kernel
theorem dX5_takerOf_24 : decode cX5_takerOf 24 = .ok (.getfield 21, 3) := by decide +kernel
theorem dX5_takerOf_27 : decode cX5_takerOf 27 = .ok (.iload_n 3, 1) := by decide +kernel
theorem dX5_takerOf_28 : decode cX5_takerOf 28 = .ok (.aaload, 1) := by decide +kernel
theorem dX5_takerOf_29 : decode cX5_takerOf 29 = .ok (.iload_n 2, 1) := by decide +kernel
theorem dX5_takerOf_30 : decode cX5_takerOf 30 = .ok (.invokevirtual 288, 3) := by decide +kernel
theorem dX5_takerOf_33 : decode cX5_takerOf 33 = .ok (.ifCond .eq 5, 3) := by decide +kernel
theorem dX5_takerOf_36 : decode cX5_takerOf 36 = .ok (.iload_n 3, 1) := by decide +kernel
theorem dX5_takerOf_37 : decode cX5_takerOf 37 = .ok (.ireturn, 1) := by decide +kernel
theorem dX5_takerOf_38 : decode cX5_takerOf 38 = .ok (.iinc 3 1, 3) := by decide +kernel
theorem dX5_takerOf_41 : decode cX5_takerOf 41 = .ok (.goto (-39), 3) := by decide +kernel
theorem dX5_takerOf_44 : decode cX5_takerOf 44 = .ok (.iconst (-1), 1) := by decide +kernel
theorem dX5_takerOf_45 : decode cX5_takerOf 45 = .ok (.ireturn, 1) := by decide +kernel
theorem dX5_movesBetween_0 : decode cX5_movesBetween 0 = .ok (.aload_n 0, 1) := by decide +kernel
theorem dX5_movesBetween_1 : decode cX5_movesBetween 1 = .ok (.iload_n 2, 1) := by decide +kernel
theorem dX5_movesBetween_2 : decode cX5_movesBetween 2 = .ok (.invokevirtual 265, 3) := by decide +kernel
theorem dX5_movesBetween_5 : decode cX5_movesBetween 5 = .ok (.ifCond .ne 5, 3) := by decide +kernel
theorem dX5_movesBetween_8 : decode cX5_movesBetween 8 = .ok (.iconst 0, 1) := by decide +kernel
theorem dX5_movesBetween_9 : decode cX5_movesBetween 9 = .ok (.ireturn, 1) := by decide +kernel
theorem dX5_movesBetween_10 : decode cX5_movesBetween 10 = .ok (.aload_n 0, 1) := by decide +kernel
theorem dX5_movesBetween_11 : decode cX5_movesBetween 11 = .ok (.iload_n 1, 1) := by decide +kernel
theorem dX5_movesBetween_12 : decode cX5_movesBetween 12 = .ok (.invokevirtual 265, 3) := by decide +kernel
theorem dX5_movesBetween_15 : decode cX5_movesBetween 15 = .ok (.ifCond .ne 13, 3) := by decide +kernel
theorem dX5_movesBetween_18 : decode cX5_movesBetween 18 = .ok (.aload_n 0, 1) := by decide +kernel
theorem dX5_movesBetween_19 : decode cX5_movesBetween 19 = .ok (.getfield 30, 3) := by decide +kernel
theorem dX5_movesBetween_22 : decode cX5_movesBetween 22 = .ok (.iload_n 2, 1) := by decide +kernel
theorem dX5_movesBetween_23 : decode cX5_movesBetween 23 = .ok (.aaload, 1) := by decide +kernel
theorem dX5_movesBetween_24 : decode cX5_movesBetween 24 = .ok (.invokevirtual 281, 3) := by decide +kernel
theorem dX5_movesBetween_27 : decode cX5_movesBetween 27 = .ok (.ireturn, 1) := by decide +kernel
theorem dX5_movesBetween_28 : decode cX5_movesBetween 28 = .ok (.aload_n 0, 1) := by decide +kernel
theorem dX5_movesBetween_29 : decode cX5_movesBetween 29 = .ok (.getfield 30, 3) := by decide +kernel
theorem dX5_movesBetween_32 : decode cX5_movesBetween 32 = .ok (.iload_n 2, 1) := by decide +kernel
theorem dX5_movesBetween_33 : decode cX5_movesBetween 33 = .ok (.aaload, 1) := by decide +kernel
theorem dX5_movesBetween_34 : decode cX5_movesBetween 34 = .ok (.aload_n 0, 1) := by decide +kernel
theorem dX5_movesBetween_35 : decode cX5_movesBetween 35 = .ok (.getfield 30, 3) := by decide +kernel
theorem dX5_movesBetween_38 : decode cX5_movesBetween 38 = .ok (.iload_n 1, 1) := by decide +kernel
theorem dX5_movesBetween_39 : decode cX5_movesBetween 39 = .ok (.aaload, 1) := by decide +kernel
theorem dX5_movesBetween_40 : decode cX5_movesBetween 40 = .ok (.invokevirtual 311, 3) := by decide +kernel
theorem dX5_movesBetween_43 : decode cX5_movesBetween 43 = .ok (.ireturn, 1) := by decide +kernel
theorem dX5_coilWaits_0 : decode cX5_coilWaits 0 = .ok (.iconst 0, 1) := by decide +kernel
theorem dX5_coilWaits_1 : decode cX5_coilWaits 1 = .ok (.istore_n 2, 1) := by decide +kernel
theorem dX5_coilWaits_2 : decode cX5_coilWaits 2 = .ok (.iload_n 2, 1) := by decide +kernel
theorem dX5_coilWaits_3 : decode cX5_coilWaits 3 = .ok (.aload_n 0, 1) := by decide +kernel
theorem dX5_coilWaits_4 : decode cX5_coilWaits 4 = .ok (.getfield 64, 3) := by decide +kernel
theorem dX5_coilWaits_7 : decode cX5_coilWaits 7 = .ok (.if_icmp .ge 21, 3) := by decide +kernel
theorem dX5_coilWaits_10 : decode cX5_coilWaits 10 = .ok (.aload_n 0, 1) := by decide +kernel
theorem dX5_coilWaits_11 : decode cX5_coilWaits 11 = .ok (.getfield 57, 3) := by decide +kernel
theorem dX5_coilWaits_14 : decode cX5_coilWaits 14 = .ok (.iload_n 2, 1) := by decide +kernel
theorem dX5_coilWaits_15 : decode cX5_coilWaits 15 = .ok (.iaload, 1) := by decide +kernel
theorem dX5_coilWaits_16 : decode cX5_coilWaits 16 = .ok (.iload_n 1, 1) := by decide +kernel
theorem dX5_coilWaits_17 : decode cX5_coilWaits 17 = .ok (.if_icmp .ne 5, 3) := by decide +kernel
theorem dX5_coilWaits_20 : decode cX5_coilWaits 20 = .ok (.iconst 1, 1) := by decide +kernel
theorem dX5_coilWaits_21 : decode cX5_coilWaits 21 = .ok (.ireturn, 1) := by decide +kernel
theorem dX5_coilWaits_22 : decode cX5_coilWaits 22 = .ok (.iinc 2 1, 3) := by decide +kernel
theorem dX5_coilWaits_25 : decode cX5_coilWaits 25 = .ok (.goto (-23), 3) := by decide +kernel
theorem dX5_coilWaits_28 : decode cX5_coilWaits 28 = .ok (.iconst 0, 1) := by decide +kernel
theorem dX5_coilWaits_29 : decode cX5_coilWaits 29 = .ok (.ireturn, 1) := by decide +kernel
theorem dX5_readMoves_0 : decode cX5_readMoves 0 = .ok (.iconst 0, 1) := by decide +kernel
theorem dX5_readMoves_1 : decode cX5_readMoves 1 = .ok (.istore_n 1, 1) := by decide +kernel
theorem dX5_readMoves_2 : decode cX5_readMoves 2 = .ok (.iload_n 1, 1) := by decide +kernel
theorem dX5_readMoves_3 : decode cX5_readMoves 3 = .ok (.aload_n 0, 1) := by decide +kernel
theorem dX5_readMoves_4 : decode cX5_readMoves 4 = .ok (.getfield 64, 3) := by decide +kernel
theorem dX5_readMoves_7 : decode cX5_readMoves 7 = .ok (.if_icmp .ge 78, 3) := by decide +kernel
theorem dX5_readMoves_10 : decode cX5_readMoves 10 = .ok (.aload_n 0, 1) := by decide +kernel
theorem dX5_readMoves_11 : decode cX5_readMoves 11 = .ok (.getfield 77, 3) := by decide +kernel
theorem dX5_readMoves_14 : decode cX5_readMoves 14 = .ok (.getfield 315, 3) := by decide +kernel
theorem dX5_readMoves_17 : decode cX5_readMoves 17 = .ok (.bipush 7, 2) := by decide +kernel
theorem dX5_readMoves_19 : decode cX5_readMoves 19 = .ok (.aaload, 1) := by decide +kernel
theorem dX5_readMoves_20 : decode cX5_readMoves 20 = .ok (.iload_n 1, 1) := by decide +kernel
theorem dX5_readMoves_21 : decode cX5_readMoves 21 = .ok (.aload_n 0, 1) := by decide +kernel
theorem dX5_readMoves_22 : decode cX5_readMoves 22 = .ok (.aload_n 0, 1) := by decide +kernel
theorem dX5_readMoves_23 : decode cX5_readMoves 23 = .ok (.getfield 51, 3) := by decide +kernel
theorem dX5_readMoves_26 : decode cX5_readMoves 26 = .ok (.aload_n 0, 1) := by decide +kernel
theorem dX5_readMoves_27 : decode cX5_readMoves 27 = .ok (.getfield 61, 3) := by decide +kernel
theorem dX5_readMoves_30 : decode cX5_readMoves 30 = .ok (.iload_n 1, 1) := by decide +kernel
theorem dX5_readMoves_31 : decode cX5_readMoves 31 = .ok (.iaload, 1) := by decide +kernel
theorem dX5_readMoves_32 : decode cX5_readMoves 32 = .ok (.invokevirtual 196, 3) := by decide +kernel
theorem dX5_readMoves_35 : decode cX5_readMoves 35 = .ok (.iastore, 1) := by decide +kernel
theorem dX5_readMoves_36 : decode cX5_readMoves 36 = .ok (.iconst 0, 1) := by decide +kernel
theorem dX5_readMoves_37 : decode cX5_readMoves 37 = .ok (.istore_n 2, 1) := by decide +kernel
theorem dX5_readMoves_38 : decode cX5_readMoves 38 = .ok (.iload_n 2, 1) := by decide +kernel
theorem dX5_readMoves_39 : decode cX5_readMoves 39 = .ok (.aload_n 0, 1) := by decide +kernel
theorem dX5_readMoves_40 : decode cX5_readMoves 40 = .ok (.getfield 64, 3) := by decide +kernel
theorem dX5_readMoves_43 : decode cX5_readMoves 43 = .ok (.if_icmp .ge 36, 3) := by decide +kernel
theorem dX5_readMoves_46 : decode cX5_readMoves 46 = .ok (.aload_n 0, 1) := by decide +kernel
theorem dX5_readMoves_47 : decode cX5_readMoves 47 = .ok (.getfield 77, 3) := by decide +kernel
theorem dX5_readMoves_50 : decode cX5_readMoves 50 = .ok (.getfield 315, 3) := by decide +kernel
theorem dX5_readMoves_53 : decode cX5_readMoves 53 = .ok (.iload_n 2, 1) := by decide +kernel
theorem dX5_readMoves_54 : decode cX5_readMoves 54 = .ok (.aaload, 1) := by decide +kernel
theorem dX5_readMoves_55 : decode cX5_readMoves 55 = .ok (.iload_n 1, 1) := by decide +kernel
theorem dX5_readMoves_56 : decode cX5_readMoves 56 = .ok (.aload_n 0, 1) := by decide +kernel
theorem dX5_readMoves_57 : decode cX5_readMoves 57 = .ok (.aload_n 0, 1) := by decide +kernel
theorem dX5_readMoves_58 : decode cX5_readMoves 58 = .ok (.getfield 61, 3) := by decide +kernel
theorem dX5_readMoves_61 : decode cX5_readMoves 61 = .ok (.iload_n 2, 1) := by decide +kernel
theorem dX5_readMoves_62 : decode cX5_readMoves 62 = .ok (.iaload, 1) := by decide +kernel
theorem dX5_readMoves_63 : decode cX5_readMoves 63 = .ok (.aload_n 0, 1) := by decide +kernel
theorem dX5_readMoves_64 : decode cX5_readMoves 64 = .ok (.getfield 61, 3) := by decide +kernel
theorem dX5_readMoves_67 : decode cX5_readMoves 67 = .ok (.iload_n 1, 1) := by decide +kernel
theorem dX5_readMoves_68 : decode cX5_readMoves 68 = .ok (.iaload, 1) := by decide +kernel
theorem dX5_readMoves_69 : decode cX5_readMoves 69 = .ok (.invokevirtual 196, 3) := by decide +kernel
theorem dX5_readMoves_72 : decode cX5_readMoves 72 = .ok (.iastore, 1) := by decide +kernel
theorem dX5_readMoves_73 : decode cX5_readMoves 73 = .ok (.iinc 2 1, 3) := by decide +kernel
theorem dX5_readMoves_76 : decode cX5_readMoves 76 = .ok (.goto (-38), 3) := by decide +kernel
theorem dX5_readMoves_79 : decode cX5_readMoves 79 = .ok (.iinc 1 1, 3) := by decide +kernel
theorem dX5_readMoves_82 : decode cX5_readMoves 82 = .ok (.goto (-80), 3) := by decide +kernel
theorem dX5_readMoves_85 : decode cX5_readMoves 85 = .ok (.return_, 1) := by decide +kernel
theorem dX6_init_0 : decode cX6_init 0 = .ok (.aload_n 0, 1) := by decide +kernel
theorem dX6_init_1 : decode cX6_init 1 = .ok (.invokespecial 1, 3) := by decide +kernel
theorem dX6_init_4 : decode cX6_init 4 = .ok (.aload_n 0, 1) := by decide +kernel
theorem dX6_init_5 : decode cX6_init 5 = .ok (.bipush 20, 2) := by decide +kernel
theorem dX6_init_7 : decode cX6_init 7 = .ok (.newarray .int, 2) := by decide +kernel
theorem dX6_init_9 : decode cX6_init 9 = .ok (.putfield 7, 3) := by decide +kernel
theorem dX6_init_12 : decode cX6_init 12 = .ok (.aload_n 0, 1) := by decide +kernel
theorem dX6_init_13 : decode cX6_init 13 = .ok (.bipush 20, 2) := by decide +kernel
theorem dX6_init_15 : decode cX6_init 15 = .ok (.newarray .int, 2) := by decide +kernel
theorem dX6_init_17 : decode cX6_init 17 = .ok (.putfield 13, 3) := by decide +kernel
theorem dX6_init_20 : decode cX6_init 20 = .ok (.aload_n 0, 1) := by decide +kernel
theorem dX6_init_21 : decode cX6_init 21 = .ok (.bipush 20, 2) := by decide +kernel
theorem dX6_init_23 : decode cX6_init 23 = .ok (.newarray .int, 2) := by decide +kernel
theorem dX6_init_25 : decode cX6_init 25 = .ok (.putfield 16, 3) := by decide +kernel
theorem dX6_init_28 : decode cX6_init 28 = .ok (.aload_n 0, 1) := by decide +kernel
theorem dX6_init_29 : decode cX6_init 29 = .ok (.bipush 20, 2) := by decide +kernel
theorem dX6_init_31 : decode cX6_init 31 = .ok (.newarray .int, 2) := by decide +kernel
theorem dX6_init_33 : decode cX6_init 33 = .ok (.putfield 19, 3) := by decide +kernel
theorem dX6_init_36 : decode cX6_init 36 = .ok (.aload_n 0, 1) := by decide +kernel
theorem dX6_init_37 : decode cX6_init 37 = .ok (.sipush 160, 3) := by decide +kernel
theorem dX6_init_40 : decode cX6_init 40 = .ok (.newarray .int, 2) := by decide +kernel
theorem dX6_init_42 : decode cX6_init 42 = .ok (.putfield 22, 3) := by decide +kernel
theorem dX6_init_45 : decode cX6_init 45 = .ok (.aload_n 0, 1) := by decide +kernel
theorem dX6_init_46 : decode cX6_init 46 = .ok (.sipush 160, 3) := by decide +kernel
theorem dX6_init_49 : decode cX6_init 49 = .ok (.newarray .int, 2) := by decide +kernel
theorem dX6_init_51 : decode cX6_init 51 = .ok (.putfield 25, 3) := by decide +kernel
theorem dX6_init_54 : decode cX6_init 54 = .ok (.aload_n 0, 1) := by decide +kernel
theorem dX6_init_55 : decode cX6_init 55 = .ok (.bipush 20, 2) := by decide +kernel
theorem dX6_init_57 : decode cX6_init 57 = .ok (.newarray .int, 2) := by decide +kernel
theorem dX6_init_59 : decode cX6_init 59 = .ok (.putfield 28, 3) := by decide +kernel
theorem dX6_init_62 : decode cX6_init 62 = .ok (.aload_n 0, 1) := by decide +kernel
theorem dX6_init_63 : decode cX6_init 63 = .ok (.bipush 10, 2) := by decide +kernel
theorem dX6_init_65 : decode cX6_init 65 = .ok (.putfield 31, 3) := by decide +kernel
theorem dX6_init_68 : decode cX6_init 68 = .ok (.aload_n 0, 1) := by decide +kernel
theorem dX6_init_69 : decode cX6_init 69 = .ok (.bipush 20, 2) := by decide +kernel
theorem dX6_init_71 : decode cX6_init 71 = .ok (.putfield 35, 3) := by decide +kernel
theorem dX6_init_74 : decode cX6_init 74 = .ok (.aload_n 0, 1) := by decide +kernel
theorem dX6_init_75 : decode cX6_init 75 = .ok (.bipush 8, 2) := by decide +kernel
theorem dX6_init_77 : decode cX6_init 77 = .ok (.putfield 38, 3) := by decide +kernel
theorem dX6_init_80 : decode cX6_init 80 = .ok (.aload_n 0, 1) := by decide +kernel
theorem dX6_init_81 : decode cX6_init 81 = .ok (.bipush 12, 2) := by decide +kernel
theorem dX6_init_83 : decode cX6_init 83 = .ok (.newarray .int, 2) := by decide +kernel
theorem dX6_init_85 : decode cX6_init 85 = .ok (.putfield 41, 3) := by decide +kernel
theorem dX6_init_88 : decode cX6_init 88 = .ok (.aload_n 0, 1) := by decide +kernel
theorem dX6_init_89 : decode cX6_init 89 = .ok (.bipush 12, 2) := by decide +kernel
theorem dX6_init_91 : decode cX6_init 91 = .ok (.newarray .int, 2) := by decide +kernel
theorem dX6_init_93 : decode cX6_init 93 = .ok (.putfield 44, 3) := by decide +kernel
theorem dX6_init_96 : decode cX6_init 96 = .ok (.aload_n 0, 1) := by decide +kernel
theorem dX6_init_97 : decode cX6_init 97 = .ok (.bipush 12, 2) := by decide +kernel
theorem dX6_init_99 : decode cX6_init 99 = .ok (.newarray .int, 2) := by decide +kernel
theorem dX6_init_101 : decode cX6_init 101 = .ok (.putfield 47, 3) := by decide +kernel
theorem dX6_init_104 : decode cX6_init 104 = .ok (.aload_n 0, 1) := by decide +kernel
theorem dX6_init_105 : decode cX6_init 105 = .ok (.bipush 12, 2) := by decide +kernel
theorem dX6_init_107 : decode cX6_init 107 = .ok (.newarray .int, 2) := by decide +kernel
theorem dX6_init_109 : decode cX6_init 109 = .ok (.putfield 50, 3) := by decide +kernel
theorem dX6_init_112 : decode cX6_init 112 = .ok (.aload_n 0, 1) := by decide +kernel
theorem dX6_init_113 : decode cX6_init 113 = .ok (.sipush 165, 3) := by decide +kernel
theorem dX6_init_116 : decode cX6_init 116 = .ok (.newarray .int, 2) := by decide +kernel
theorem dX6_init_118 : decode cX6_init 118 = .ok (.putfield 53, 3) := by decide +kernel
theorem dX6_init_121 : decode cX6_init 121 = .ok (.aload_n 0, 1) := by decide +kernel
theorem dX6_init_122 : decode cX6_init 122 = .ok (.bipush 11, 2) := by decide +kernel
theorem dX6_init_124 : decode cX6_init 124 = .ok (.newarray .int, 2) := by decide +kernel
theorem dX6_init_126 : decode cX6_init 126 = .ok (.putfield 56, 3) := by decide +kernel
theorem dX6_init_129 : decode cX6_init 129 = .ok (.aload_n 0, 1) := by decide +kernel
theorem dX6_init_130 : decode cX6_init 130 = .ok (.bipush 20, 2) := by decide +kernel
theorem dX6_init_132 : decode cX6_init 132 = .ok (.newarray .int, 2) := by decide +kernel
theorem dX6_init_134 : decode cX6_init 134 = .ok (.putfield 59, 3) := by decide +kernel
theorem dX6_init_137 : decode cX6_init 137 = .ok (.aload_n 0, 1) := by decide +kernel
theorem dX6_init_138 : decode cX6_init 138 = .ok (.sipush 300, 3) := by decide +kernel
theorem dX6_init_141 : decode cX6_init 141 = .ok (.newarray .int, 2) := by decide +kernel
theorem dX6_init_143 : decode cX6_init 143 = .ok (.putfield 62, 3) := by decide +kernel
theorem dX6_init_146 : decode cX6_init 146 = .ok (.aload_n 0, 1) := by decide +kernel
theorem dX6_init_147 : decode cX6_init 147 = .ok (.sipush 300, 3) := by decide +kernel
theorem dX6_init_150 : decode cX6_init 150 = .ok (.newarray .int, 2) := by decide +kernel
theorem dX6_init_152 : decode cX6_init 152 = .ok (.putfield 65, 3) := by decide +kernel
theorem dX6_init_155 : decode cX6_init 155 = .ok (.aload_n 0, 1) := by decide +kernel
theorem dX6_init_156 : decode cX6_init 156 = .ok (.bipush 60, 2) := by decide +kernel
theorem dX6_init_158 : decode cX6_init 158 = .ok (.newarray .int, 2) := by decide +kernel
theorem dX6_init_160 : decode cX6_init 160 = .ok (.putfield 68, 3) := by decide +kernel
theorem dX6_init_163 : decode cX6_init 163 = .ok (.aload_n 0, 1) := by decide +kernel
theorem dX6_init_164 : decode cX6_init 164 = .ok (.iconst (-1), 1) := by decide +kernel
theorem dX6_init_165 : decode cX6_init 165 = .ok (.putfield 71, 3) := by decide +kernel
theorem dX6_init_168 : decode cX6_init 168 = .ok (.aload_n 0, 1) := by decide +kernel
theorem dX6_init_169 : decode cX6_init 169 = .ok (.bipush 7, 2) := by decide +kernel
theorem dX6_init_171 : decode cX6_init 171 = .ok (.newarray .int, 2) := by decide +kernel
theorem dX6_init_173 : decode cX6_init 173 = .ok (.putfield 74, 3) := by decide +kernel
theorem dX6_init_176 : decode cX6_init 176 = .ok (.aload_n 0, 1) := by decide +kernel
theorem dX6_init_177 : decode cX6_init 177 = .ok (.bipush 7, 2) := by decide +kernel
theorem dX6_init_179 : decode cX6_init 179 = .ok (.newarray .int, 2) := by decide +kernel
theorem dX6_init_181 : decode cX6_init 181 = .ok (.putfield 77, 3) := by decide +kernel
theorem dX6_init_184 : decode cX6_init 184 = .ok (.aload_n 0, 1) := by decide +kernel
theorem dX6_init_185 : decode cX6_init 185 = .ok (.sipush 2001, 3) := by decide +kernel
theorem dX6_init_188 : decode cX6_init 188 = .ok (.newarray .int, 2) := by decide +kernel
theorem dX6_init_190 : decode cX6_init 190 = .ok (.putfield 80, 3) := by decide +kernel
theorem dX6_init_193 : decode cX6_init 193 = .ok (.aload_n 0, 1) := by decide +kernel
theorem dX6_init_194 : decode cX6_init 194 = .ok (.sipush 1024, 3) := by decide +kernel
theorem dX6_init_197 : decode cX6_init 197 = .ok (.newarray .int, 2) := by decide +kernel
theorem dX6_init_199 : decode cX6_init 199 = .ok (.putfield 83, 3) := by decide +kernel
theorem dX6_init_202 : decode cX6_init 202 = .ok (.aload_n 0, 1) := by decide +kernel
theorem dX6_init_203 : decode cX6_init 203 = .ok (.bipush 7, 2) := by decide +kernel
theorem dX6_init_205 : decode cX6_init 205 = .ok (.newarray .int, 2) := by decide +kernel
theorem dX6_init_207 : decode cX6_init 207 = .ok (.putfield 86, 3) := by decide +kernel
theorem dX6_init_210 : decode cX6_init 210 = .ok (.return_, 1) := by decide +kernel
theorem dX6_thrown_0 : decode cX6_thrown 0 = .ok (.aload_n 0, 1) := by decide +kernel
theorem dX6_thrown_1 : decode cX6_thrown 1 = .ok (.getfield 89, 3) := by decide +kernel
theorem dX6_thrown_4 : decode cX6_thrown 4 = .ok (.ireturn, 1) := by decide +kernel
theorem dX6_in_0 : decode cX6_in 0 = .ok (.iload_n 0, 1) := by decide +kernel
theorem dX6_in_1 : decode cX6_in 1 = .ok (.iload_n 1, 1) := by decide +kernel
theorem dX6_in_2 : decode cX6_in 2 = .ok (.if_icmp .lt 12, 3) := by decide +kernel
theorem dX6_in_5 : decode cX6_in 5 = .ok (.iload_n 0, 1) := by decide +kernel
theorem dX6_in_6 : decode cX6_in 6 = .ok (.iload_n 2, 1) := by decide +kernel
theorem dX6_in_7 : decode cX6_in 7 = .ok (.if_icmp .gt 7, 3) := by decide +kernel
theorem dX6_in_10 : decode cX6_in 10 = .ok (.iconst 1, 1) := by decide +kernel
theorem dX6_in_11 : decode cX6_in 11 = .ok (.goto 4, 3) := by decide +kernel
theorem dX6_in_14 : decode cX6_in 14 = .ok (.iconst 0, 1) := by decide +kernel
theorem dX6_in_15 : decode cX6_in 15 = .ok (.ireturn, 1) := by decide +kernel
theorem dX6_asked_0 : decode cX6_asked 0 = .ok (.aload_n 0, 1) := by decide +kernel
theorem dX6_asked_1 : decode cX6_asked 1 = .ok (.iload_n 1, 1) := by decide +kernel
theorem dX6_asked_2 : decode cX6_asked 2 = .ok (.ifCond .eq 7, 3) := by decide +kernel
theorem dX6_asked_5 : decode cX6_asked 5 = .ok (.iconst 0, 1) := by decide +kernel
theorem dX6_asked_6 : decode cX6_asked 6 = .ok (.goto 4, 3) := by decide +kernel
theorem dX6_asked_9 : decode cX6_asked 9 = .ok (.iconst 1, 1) := by decide +kernel
theorem dX6_asked_10 : decode cX6_asked 10 = .ok (.putfield 89, 3) := by decide +kernel
theorem dX6_asked_13 : decode cX6_asked 13 = .ok (.iload_n 1, 1) := by decide +kernel
theorem dX6_asked_14 : decode cX6_asked 14 = .ok (.ireturn, 1) := by decide +kernel
theorem dX6_asked__0 : decode cX6_asked_ 0 = .ok (.aload_n 0, 1) := by decide +kernel
theorem dX6_asked__1 : decode cX6_asked_ 1 = .ok (.iload_n 1, 1) := by decide +kernel
theorem dX6_asked__2 : decode cX6_asked_ 2 = .ok (.ifCond .ne 7, 3) := by decide +kernel
theorem dX6_asked__5 : decode cX6_asked_ 5 = .ok (.iconst 1, 1) := by decide +kernel
theorem dX6_asked__6 : decode cX6_asked_ 6 = .ok (.goto 12, 3) := by decide +kernel
theorem dX6_asked__9 : decode cX6_asked_ 9 = .ok (.iload_n 2, 1) := by decide +kernel
theorem dX6_asked__10 : decode cX6_asked_ 10 = .ok (.ifCond .eq 7, 3) := by decide +kernel
theorem dX6_asked__13 : decode cX6_asked_ 13 = .ok (.iconst 0, 1) := by decide +kernel
theorem dX6_asked__14 : decode cX6_asked_ 14 = .ok (.goto 4, 3) := by decide +kernel
theorem dX6_asked__17 : decode cX6_asked_ 17 = .ok (.iconst 2, 1) := by decide +kernel
theorem dX6_asked__18 : decode cX6_asked_ 18 = .ok (.putfield 89, 3) := by decide +kernel
theorem dX6_asked__21 : decode cX6_asked_ 21 = .ok (.aload_n 0, 1) := by decide +kernel
theorem dX6_asked__22 : decode cX6_asked_ 22 = .ok (.getfield 89, 3) := by decide +kernel
theorem dX6_asked__25 : decode cX6_asked_ 25 = .ok (.ifCond .ne 7, 3) := by decide +kernel
theorem dX6_asked__28 : decode cX6_asked_ 28 = .ok (.iconst 1, 1) := by decide +kernel
theorem dX6_asked__29 : decode cX6_asked_ 29 = .ok (.goto 4, 3) := by decide +kernel
theorem dX6_asked__32 : decode cX6_asked_ 32 = .ok (.iconst 0, 1) := by decide +kernel
theorem dX6_asked__33 : decode cX6_asked_ 33 = .ok (.ireturn, 1) := by decide +kernel
theorem dX6_asked___0 : decode cX6_asked__ 0 = .ok (.aload_n 0, 1) := by decide +kernel
theorem dX6_asked___1 : decode cX6_asked__ 1 = .ok (.iload_n 1, 1) := by decide +kernel
theorem dX6_asked___2 : decode cX6_asked__ 2 = .ok (.ifCond .ne 7, 3) := by decide +kernel
theorem dX6_asked___5 : decode cX6_asked__ 5 = .ok (.iconst 1, 1) := by decide +kernel
theorem dX6_asked___6 : decode cX6_asked__ 6 = .ok (.goto 20, 3) := by decide +kernel
theorem dX6_asked___9 : decode cX6_asked__ 9 = .ok (.iload_n 2, 1) := by decide +kernel
theorem dX6_asked___10 : decode cX6_asked__ 10 = .ok (.ifCond .ne 7, 3) := by decide +kernel
theorem dX6_asked___13 : decode cX6_asked__ 13 = .ok (.iconst 2, 1) := by decide +kernel
theorem dX6_asked___14 : decode cX6_asked__ 14 = .ok (.goto 12, 3) := by decide +kernel
theorem dX6_asked___17 : decode cX6_asked__ 17 = .ok (.iload_n 3, 1) := by decide +kernel
theorem dX6_asked___18 : decode cX6_asked__ 18 = .ok (.ifCond .eq 7, 3) := by decide +kernel
theorem dX6_asked___21 : decode cX6_asked__ 21 = .ok (.iconst 0, 1) := by decide +kernel
theorem dX6_asked___22 : decode cX6_asked__ 22 = .ok (.goto 4, 3) := by decide +kernel
theorem dX6_asked___25 : decode cX6_asked__ 25 = .ok (.iconst 3, 1) := by decide +kernel
theorem dX6_asked___26 : decode cX6_asked__ 26 = .ok (.putfield 89, 3) := by decide +kernel
theorem dX6_asked___29 : decode cX6_asked__ 29 = .ok (.aload_n 0, 1) := by decide +kernel
theorem dX6_asked___30 : decode cX6_asked__ 30 = .ok (.getfield 89, 3) := by decide +kernel
theorem dX6_asked___33 : decode cX6_asked__ 33 = .ok (.ifCond .ne 7, 3) := by decide +kernel
theorem dX6_asked___36 : decode cX6_asked__ 36 = .ok (.iconst 1, 1) := by decide +kernel
theorem dX6_asked___37 : decode cX6_asked__ 37 = .ok (.goto 4, 3) := by decide +kernel
theorem dX6_asked___40 : decode cX6_asked__ 40 = .ok (.iconst 0, 1) := by decide +kernel
theorem dX6_asked___41 : decode cX6_asked__ 41 = .ok (.ireturn, 1) := by decide +kernel
theorem dX6_told_0 : decode cX6_told 0 = .ok (.aload_n 0, 1) := by decide +kernel
theorem dX6_told_1 : decode cX6_told 1 = .ok (.iconst 0, 1) := by decide +kernel
theorem dX6_told_2 : decode cX6_told 2 = .ok (.putfield 89, 3) := by decide +kernel
theorem dX6_told_5 : decode cX6_told 5 = .ok (.iload_n 1, 1) := by decide +kernel
theorem dX6_told_6 : decode cX6_told 6 = .ok (.ireturn, 1) := by decide +kernel
theorem dX6_isCoil_0 : decode cX6_isCoil 0 = .ok (.iload_n 1, 1) := by decide +kernel
theorem dX6_isCoil_1 : decode cX6_isCoil 1 = .ok (.iconst 0, 1) := by decide +kernel
theorem dX6_isCoil_2 : decode cX6_isCoil 2 = .ok (.aload_n 0, 1) := by decide +kernel
theorem dX6_isCoil_3 : decode cX6_isCoil 3 = .ok (.getfield 92, 3) := by decide +kernel
theorem dX6_isCoil_6 : decode cX6_isCoil 6 = .ok (.iconst 1, 1) := by decide +kernel
theorem dX6_isCoil_7 : decode cX6_isCoil 7 = .ok (.isub, 1) := by decide +kernel
theorem dX6_isCoil_8 : decode cX6_isCoil 8 = .ok (.invokestatic 95, 3) := by decide +kernel
theorem dX6_isCoil_11 : decode cX6_isCoil 11 = .ok (.ireturn, 1) := by decide +kernel
theorem dX6_isPattern_0 : decode cX6_isPattern 0 = .ok (.iload_n 1, 1) := by decide +kernel
theorem dX6_isPattern_1 : decode cX6_isPattern 1 = .ok (.iconst 0, 1) := by decide +kernel
theorem dX6_isPattern_2 : decode cX6_isPattern 2 = .ok (.aload_n 0, 1) := by decide +kernel
theorem dX6_isPattern_3 : decode cX6_isPattern 3 = .ok (.getfield 99, 3) := by decide +kernel
theorem dX6_isPattern_6 : decode cX6_isPattern 6 = .ok (.iconst 1, 1) := by decide +kernel
theorem dX6_isPattern_7 : decode cX6_isPattern 7 = .ok (.isub, 1) := by decide +kernel
theorem dX6_isPattern_8 : decode cX6_isPattern 8 = .ok (.invokestatic 95, 3) := by decide +kernel
theorem dX6_isPattern_11 : decode cX6_isPattern 11 = .ok (.ireturn, 1) := by decide +kernel
theorem dX6_coil_0 : decode cX6_coil 0 = .ok (.iload_n 1, 1) := by decide +kernel
theorem dX6_coil_1 : decode cX6_coil 1 = .ok (.bipush 100, 2) := by decide +kernel
theorem dX6_coil_3 : decode cX6_coil 3 = .ok (.sipush 2000, 3) := by decide +kernel
theorem dX6_coil_6 : decode cX6_coil 6 = .ok (.invokestatic 95, 3) := by decide +kernel
theorem dX6_coil_9 : decode cX6_coil 9 = .ok (.ifCond .eq 41, 3) := by decide +kernel
theorem dX6_coil_12 : decode cX6_coil 12 = .ok (.iload_n 2, 1) := by decide +kernel
theorem dX6_coil_13 : decode cX6_coil 13 = .ok (.iconst 1, 1) := by decide +kernel
theorem dX6_coil_14 : decode cX6_coil 14 = .ok (.sipush 30000, 3) := by decide +kernel
theorem dX6_coil_17 : decode cX6_coil 17 = .ok (.invokestatic 95, 3) := by decide +kernel
theorem dX6_coil_20 : decode cX6_coil 20 = .ok (.ifCond .eq 30, 3) := by decide +kernel
theorem dX6_coil_23 : decode cX6_coil 23 = .ok (.iload_n 3, 1) := by decide +kernel
theorem dX6_coil_24 : decode cX6_coil 24 = .ok (.bipush 10, 2) := by decide +kernel
theorem dX6_coil_26 : decode cX6_coil 26 = .ok (.sipush 5000, 3) := by decide +kernel
theorem dX6_coil_29 : decode cX6_coil 29 = .ok (.invokestatic 95, 3) := by decide +kernel
theorem dX6_coil_32 : decode cX6_coil 32 = .ok (.ifCond .eq 18, 3) := by decide +kernel
theorem dX6_coil_35 : decode cX6_coil 35 = .ok (.iload 4, 2) := by decide +kernel
theorem dX6_coil_37 : decode cX6_coil 37 = .ok (.iconst 1, 1) := by decide +kernel
theorem dX6_coil_38 : decode cX6_coil 38 = .ok (.bipush 99, 2) := by decide +kernel
theorem dX6_coil_40 : decode cX6_coil 40 = .ok (.invokestatic 95, 3) := by decide +kernel
theorem dX6_coil_43 : decode cX6_coil 43 = .ok (.ifCond .eq 7, 3) := by decide +kernel
theorem dX6_coil_46 : decode cX6_coil 46 = .ok (.iconst 1, 1) := by decide +kernel
theorem dX6_coil_47 : decode cX6_coil 47 = .ok (.goto 4, 3) := by decide +kernel
theorem dX6_coil_50 : decode cX6_coil 50 = .ok (.iconst 0, 1) := by decide +kernel
theorem dX6_coil_51 : decode cX6_coil 51 = .ok (.istore 5, 2) := by decide +kernel
theorem dX6_coil_53 : decode cX6_coil 53 = .ok (.aload_n 0, 1) := by decide +kernel
theorem dX6_coil_54 : decode cX6_coil 54 = .ok (.iload 5, 2) := by decide +kernel
theorem dX6_coil_56 : decode cX6_coil 56 = .ok (.aload_n 0, 1) := by decide +kernel
theorem dX6_coil_57 : decode cX6_coil 57 = .ok (.getfield 92, 3) := by decide +kernel
theorem dX6_coil_60 : decode cX6_coil 60 = .ok (.bipush 20, 2) := by decide +kernel
theorem dX6_coil_62 : decode cX6_coil 62 = .ok (.if_icmp .ge 7, 3) := by decide +kernel
theorem dX6_coil_65 : decode cX6_coil 65 = .ok (.iconst 1, 1) := by decide +kernel
theorem dX6_coil_66 : decode cX6_coil 66 = .ok (.goto 4, 3) := by decide +kernel
theorem dX6_coil_69 : decode cX6_coil 69 = .ok (.iconst 0, 1) := by decide +kernel
theorem dX6_coil_70 : decode cX6_coil 70 = .ok (.invokevirtual 102, 3) := by decide +kernel
theorem dX6_coil_73 : decode cX6_coil 73 = .ok (.ifCond .ne 5, 3) := by decide +kernel
theorem dX6_coil_76 : decode cX6_coil 76 = .ok (.iconst 0, 1) := by decide +kernel
theorem dX6_coil_77 : decode cX6_coil 77 = .ok (.ireturn, 1) := by decide +kernel
theorem dX6_coil_78 : decode cX6_coil 78 = .ok (.aload_n 0, 1) := by decide +kernel
theorem dX6_coil_79 : decode cX6_coil 79 = .ok (.getfield 7, 3) := by decide +kernel
theorem dX6_coil_82 : decode cX6_coil 82 = .ok (.aload_n 0, 1) := by decide +kernel
theorem dX6_coil_83 : decode cX6_coil 83 = .ok (.getfield 92, 3) := by decide +kernel
theorem dX6_coil_86 : decode cX6_coil 86 = .ok (.iload_n 1, 1) := by decide +kernel
theorem dX6_coil_87 : decode cX6_coil 87 = .ok (.iastore, 1) := by decide +kernel
theorem dX6_coil_88 : decode cX6_coil 88 = .ok (.aload_n 0, 1) := by decide +kernel
theorem dX6_coil_89 : decode cX6_coil 89 = .ok (.getfield 13, 3) := by decide +kernel
theorem dX6_coil_92 : decode cX6_coil 92 = .ok (.aload_n 0, 1) := by decide +kernel
theorem dX6_coil_93 : decode cX6_coil 93 = .ok (.getfield 92, 3) := by decide +kernel
theorem dX6_coil_96 : decode cX6_coil 96 = .ok (.iload_n 2, 1) := by decide +kernel
theorem dX6_coil_97 : decode cX6_coil 97 = .ok (.iastore, 1) := by decide +kernel
theorem dX6_coil_98 : decode cX6_coil 98 = .ok (.aload_n 0, 1) := by decide +kernel
theorem dX6_coil_99 : decode cX6_coil 99 = .ok (.getfield 16, 3) := by decide +kernel
theorem dX6_coil_102 : decode cX6_coil 102 = .ok (.aload_n 0, 1) := by decide +kernel
theorem dX6_coil_103 : decode cX6_coil 103 = .ok (.getfield 92, 3) := by decide +kernel
theorem dX6_coil_106 : decode cX6_coil 106 = .ok (.iload_n 3, 1) := by decide +kernel
theorem dX6_coil_107 : decode cX6_coil 107 = .ok (.iastore, 1) := by decide +kernel
theorem dX6_coil_108 : decode cX6_coil 108 = .ok (.aload_n 0, 1) := by decide +kernel
theorem dX6_coil_109 : decode cX6_coil 109 = .ok (.getfield 19, 3) := by decide +kernel
theorem dX6_coil_112 : decode cX6_coil 112 = .ok (.aload_n 0, 1) := by decide +kernel
theorem dX6_coil_113 : decode cX6_coil 113 = .ok (.getfield 92, 3) := by decide +kernel
theorem dX6_coil_116 : decode cX6_coil 116 = .ok (.iload 4, 2) := by decide +kernel
theorem dX6_coil_118 : decode cX6_coil 118 = .ok (.iastore, 1) := by decide +kernel
theorem dX6_coil_119 : decode cX6_coil 119 = .ok (.aload_n 0, 1) := by decide +kernel
theorem dX6_coil_120 : decode cX6_coil 120 = .ok (.getfield 59, 3) := by decide +kernel
theorem dX6_coil_123 : decode cX6_coil 123 = .ok (.aload_n 0, 1) := by decide +kernel
theorem dX6_coil_124 : decode cX6_coil 124 = .ok (.getfield 92, 3) := by decide +kernel
theorem dX6_coil_127 : decode cX6_coil 127 = .ok (.iconst (-1), 1) := by decide +kernel
theorem dX6_coil_128 : decode cX6_coil 128 = .ok (.iastore, 1) := by decide +kernel
theorem dX6_coil_129 : decode cX6_coil 129 = .ok (.aload_n 0, 1) := by decide +kernel
theorem dX6_coil_130 : decode cX6_coil 130 = .ok (.dup, 1) := by decide +kernel
theorem dX6_coil_131 : decode cX6_coil 131 = .ok (.getfield 92, 3) := by decide +kernel
theorem dX6_coil_134 : decode cX6_coil 134 = .ok (.iconst 1, 1) := by decide +kernel
theorem dX6_coil_135 : decode cX6_coil 135 = .ok (.iadd, 1) := by decide +kernel
theorem dX6_coil_136 : decode cX6_coil 136 = .ok (.putfield 92, 3) := by decide +kernel
theorem dX6_coil_139 : decode cX6_coil 139 = .ok (.aload_n 0, 1) := by decide +kernel
theorem dX6_coil_140 : decode cX6_coil 140 = .ok (.getfield 92, 3) := by decide +kernel
theorem dX6_coil_143 : decode cX6_coil 143 = .ok (.iconst 1, 1) := by decide +kernel
theorem dX6_coil_144 : decode cX6_coil 144 = .ok (.isub, 1) := by decide +kernel
theorem dX6_coil_145 : decode cX6_coil 145 = .ok (.ireturn, 1) := by decide +kernel
theorem dX6_cutOut_0 : decode cX6_cutOut 0 = .ok (.iconst 0, 1) := by decide +kernel
theorem dX6_cutOut_1 : decode cX6_cutOut 1 = .ok (.istore_n 2, 1) := by decide +kernel
theorem dX6_cutOut_2 : decode cX6_cutOut 2 = .ok (.iconst 0, 1) := by decide +kernel
theorem dX6_cutOut_3 : decode cX6_cutOut 3 = .ok (.istore_n 3, 1) := by decide +kernel
theorem dX6_cutOut_4 : decode cX6_cutOut 4 = .ok (.iload_n 3, 1) := by decide +kernel
theorem dX6_cutOut_5 : decode cX6_cutOut 5 = .ok (.aload_n 0, 1) := by decide +kernel
theorem dX6_cutOut_6 : decode cX6_cutOut 6 = .ok (.getfield 16, 3) := by decide +kernel
theorem dX6_cutOut_9 : decode cX6_cutOut 9 = .ok (.iload_n 1, 1) := by decide +kernel
theorem dX6_cutOut_10 : decode cX6_cutOut 10 = .ok (.iaload, 1) := by decide +kernel
theorem dX6_cutOut_11 : decode cX6_cutOut 11 = .ok (.if_icmp .ge 87, 3) := by decide +kernel
theorem dX6_cutOut_14 : decode cX6_cutOut 14 = .ok (.iconst 0, 1) := by decide +kernel
theorem dX6_cutOut_15 : decode cX6_cutOut 15 = .ok (.istore 4, 2) := by decide +kernel
theorem dX6_cutOut_17 : decode cX6_cutOut 17 = .ok (.bipush 8, 2) := by decide +kernel
theorem dX6_cutOut_19 : decode cX6_cutOut 19 = .ok (.iload_n 1, 1) := by decide +kernel
theorem dX6_cutOut_20 : decode cX6_cutOut 20 = .ok (.imul, 1) := by decide +kernel
theorem dX6_cutOut_21 : decode cX6_cutOut 21 = .ok (.istore 5, 2) := by decide +kernel
theorem dX6_cutOut_23 : decode cX6_cutOut 23 = .ok (.iload 5, 2) := by decide +kernel
theorem dX6_cutOut_25 : decode cX6_cutOut 25 = .ok (.bipush 8, 2) := by decide +kernel
theorem dX6_cutOut_27 : decode cX6_cutOut 27 = .ok (.iload_n 1, 1) := by decide +kernel
theorem dX6_cutOut_28 : decode cX6_cutOut 28 = .ok (.imul, 1) := by decide +kernel
theorem dX6_cutOut_29 : decode cX6_cutOut 29 = .ok (.aload_n 0, 1) := by decide +kernel
theorem dX6_cutOut_30 : decode cX6_cutOut 30 = .ok (.getfield 28, 3) := by decide +kernel
theorem dX6_cutOut_33 : decode cX6_cutOut 33 = .ok (.iload_n 1, 1) := by decide +kernel
theorem dX6_cutOut_34 : decode cX6_cutOut 34 = .ok (.iaload, 1) := by decide +kernel
theorem dX6_cutOut_35 : decode cX6_cutOut 35 = .ok (.iadd, 1) := by decide +kernel
theorem dX6_cutOut_36 : decode cX6_cutOut 36 = .ok (.if_icmp .ge 43, 3) := by decide +kernel
theorem dX6_cutOut_39 : decode cX6_cutOut 39 = .ok (.iload 4, 2) := by decide +kernel
theorem dX6_cutOut_41 : decode cX6_cutOut 41 = .ok (.ifCond .ne 25, 3) := by decide +kernel
theorem dX6_cutOut_44 : decode cX6_cutOut 44 = .ok (.iload_n 3, 1) := by decide +kernel
theorem dX6_cutOut_45 : decode cX6_cutOut 45 = .ok (.aload_n 0, 1) := by decide +kernel
theorem dX6_cutOut_46 : decode cX6_cutOut 46 = .ok (.getfield 22, 3) := by decide +kernel
theorem dX6_cutOut_49 : decode cX6_cutOut 49 = .ok (.iload 5, 2) := by decide +kernel
theorem dX6_cutOut_51 : decode cX6_cutOut 51 = .ok (.iaload, 1) := by decide +kernel
theorem dX6_cutOut_52 : decode cX6_cutOut 52 = .ok (.if_icmp .lt 18, 3) := by decide +kernel
theorem dX6_cutOut_55 : decode cX6_cutOut 55 = .ok (.iload_n 3, 1) := by decide +kernel
theorem dX6_cutOut_56 : decode cX6_cutOut 56 = .ok (.aload_n 0, 1) := by decide +kernel
theorem dX6_cutOut_57 : decode cX6_cutOut 57 = .ok (.getfield 25, 3) := by decide +kernel
theorem dX6_cutOut_60 : decode cX6_cutOut 60 = .ok (.iload 5, 2) := by decide +kernel
theorem dX6_cutOut_62 : decode cX6_cutOut 62 = .ok (.iaload, 1) := by decide +kernel
theorem dX6_cutOut_63 : decode cX6_cutOut 63 = .ok (.if_icmp .ge 7, 3) := by decide +kernel
theorem dX6_cutOut_66 : decode cX6_cutOut 66 = .ok (.iconst 1, 1) := by decide +kernel
theorem dX6_cutOut_67 : decode cX6_cutOut 67 = .ok (.goto 4, 3) := by decide +kernel
theorem dX6_cutOut_70 : decode cX6_cutOut 70 = .ok (.iconst 0, 1) := by decide +kernel
theorem dX6_cutOut_71 : decode cX6_cutOut 71 = .ok (.istore 4, 2) := by decide +kernel
theorem dX6_cutOut_73 : decode cX6_cutOut 73 = .ok (.iinc 5 1, 3) := by decide +kernel
theorem dX6_cutOut_76 : decode cX6_cutOut 76 = .ok (.goto (-53), 3) := by decide +kernel
theorem dX6_cutOut_79 : decode cX6_cutOut 79 = .ok (.iload_n 2, 1) := by decide +kernel
theorem dX6_cutOut_80 : decode cX6_cutOut 80 = .ok (.iload 4, 2) := by decide +kernel
theorem dX6_cutOut_82 : decode cX6_cutOut 82 = .ok (.ifCond .eq 7, 3) := by decide +kernel
theorem dX6_cutOut_85 : decode cX6_cutOut 85 = .ok (.iconst 1, 1) := by decide +kernel
theorem dX6_cutOut_86 : decode cX6_cutOut 86 = .ok (.goto 4, 3) := by decide +kernel
theorem dX6_cutOut_89 : decode cX6_cutOut 89 = .ok (.iconst 0, 1) := by decide +kernel
theorem dX6_cutOut_90 : decode cX6_cutOut 90 = .ok (.iadd, 1) := by decide +kernel
theorem dX6_cutOut_91 : decode cX6_cutOut 91 = .ok (.istore_n 2, 1) := by decide +kernel
theorem dX6_cutOut_92 : decode cX6_cutOut 92 = .ok (.iinc 3 1, 3) := by decide +kernel
theorem dX6_cutOut_95 : decode cX6_cutOut 95 = .ok (.goto (-91), 3) := by decide +kernel
theorem dX6_cutOut_98 : decode cX6_cutOut 98 = .ok (.iload_n 2, 1) := by decide +kernel
theorem dX6_cutOut_99 : decode cX6_cutOut 99 = .ok (.ireturn, 1) := by decide +kernel
theorem dX6_defect_0 : decode cX6_defect 0 = .ok (.aload_n 0, 1) := by decide +kernel
theorem dX6_defect_1 : decode cX6_defect 1 = .ok (.iload_n 1, 1) := by decide +kernel
theorem dX6_defect_2 : decode cX6_defect 2 = .ok (.invokevirtual 106, 3) := by decide +kernel
theorem dX6_defect_5 : decode cX6_defect 5 = .ok (.istore 4, 2) := by decide +kernel
theorem dX6_defect_7 : decode cX6_defect 7 = .ok (.iload 4, 2) := by decide +kernel
theorem dX6_defect_9 : decode cX6_defect 9 = .ok (.ifCond .eq 39, 3) := by decide +kernel
theorem dX6_defect_12 : decode cX6_defect 12 = .ok (.iload_n 2, 1) := by decide +kernel
theorem dX6_defect_13 : decode cX6_defect 13 = .ok (.iconst 0, 1) := by decide +kernel
theorem dX6_defect_14 : decode cX6_defect 14 = .ok (.aload_n 0, 1) := by decide +kernel
theorem dX6_defect_15 : decode cX6_defect 15 = .ok (.getfield 16, 3) := by decide +kernel
theorem dX6_defect_18 : decode cX6_defect 18 = .ok (.iload_n 1, 1) := by decide +kernel
theorem dX6_defect_19 : decode cX6_defect 19 = .ok (.iaload, 1) := by decide +kernel
theorem dX6_defect_20 : decode cX6_defect 20 = .ok (.iconst 1, 1) := by decide +kernel
theorem dX6_defect_21 : decode cX6_defect 21 = .ok (.isub, 1) := by decide +kernel
theorem dX6_defect_22 : decode cX6_defect 22 = .ok (.invokestatic 95, 3) := by decide +kernel
theorem dX6_defect_25 : decode cX6_defect 25 = .ok (.ifCond .eq 23, 3) := by decide +kernel
theorem dX6_defect_28 : decode cX6_defect 28 = .ok (.iload_n 3, 1) := by decide +kernel
theorem dX6_defect_29 : decode cX6_defect 29 = .ok (.iload_n 2, 1) := by decide +kernel
theorem dX6_defect_30 : decode cX6_defect 30 = .ok (.iconst 1, 1) := by decide +kernel
theorem dX6_defect_31 : decode cX6_defect 31 = .ok (.iadd, 1) := by decide +kernel
theorem dX6_defect_32 : decode cX6_defect 32 = .ok (.aload_n 0, 1) := by decide +kernel
theorem dX6_defect_33 : decode cX6_defect 33 = .ok (.getfield 16, 3) := by decide +kernel
theorem dX6_defect_36 : decode cX6_defect 36 = .ok (.iload_n 1, 1) := by decide +kernel
theorem dX6_defect_37 : decode cX6_defect 37 = .ok (.iaload, 1) := by decide +kernel
theorem dX6_defect_38 : decode cX6_defect 38 = .ok (.invokestatic 95, 3) := by decide +kernel
theorem dX6_defect_41 : decode cX6_defect 41 = .ok (.ifCond .eq 7, 3) := by decide +kernel
theorem dX6_defect_44 : decode cX6_defect 44 = .ok (.iconst 1, 1) := by decide +kernel
theorem dX6_defect_45 : decode cX6_defect 45 = .ok (.goto 4, 3) := by decide +kernel
theorem dX6_defect_48 : decode cX6_defect 48 = .ok (.iconst 0, 1) := by decide +kernel
theorem dX6_defect_49 : decode cX6_defect 49 = .ok (.istore 5, 2) := by decide +kernel
theorem dX6_defect_51 : decode cX6_defect 51 = .ok (.aload_n 0, 1) := by decide +kernel
theorem dX6_defect_52 : decode cX6_defect 52 = .ok (.iload 4, 2) := by decide +kernel
theorem dX6_defect_54 : decode cX6_defect 54 = .ok (.iload 5, 2) := by decide +kernel
theorem dX6_defect_56 : decode cX6_defect 56 = .ok (.iload 4, 2) := by decide +kernel
theorem dX6_defect_58 : decode cX6_defect 58 = .ok (.ifCond .eq 28, 3) := by decide +kernel
theorem dX6_defect_61 : decode cX6_defect 61 = .ok (.aload_n 0, 1) := by decide +kernel
theorem dX6_defect_62 : decode cX6_defect 62 = .ok (.getfield 59, 3) := by decide +kernel
theorem dX6_defect_65 : decode cX6_defect 65 = .ok (.iload_n 1, 1) := by decide +kernel
theorem dX6_defect_66 : decode cX6_defect 66 = .ok (.iaload, 1) := by decide +kernel
theorem dX6_defect_67 : decode cX6_defect 67 = .ok (.iconst (-1), 1) := by decide +kernel
theorem dX6_defect_68 : decode cX6_defect 68 = .ok (.if_icmp .ne 18, 3) := by decide +kernel
theorem dX6_defect_71 : decode cX6_defect 71 = .ok (.aload_n 0, 1) := by decide +kernel
theorem dX6_defect_72 : decode cX6_defect 72 = .ok (.getfield 28, 3) := by decide +kernel
theorem dX6_defect_75 : decode cX6_defect 75 = .ok (.iload_n 1, 1) := by decide +kernel
theorem dX6_defect_76 : decode cX6_defect 76 = .ok (.iaload, 1) := by decide +kernel
theorem dX6_defect_77 : decode cX6_defect 77 = .ok (.bipush 8, 2) := by decide +kernel
theorem dX6_defect_79 : decode cX6_defect 79 = .ok (.if_icmp .ge 7, 3) := by decide +kernel
theorem dX6_defect_82 : decode cX6_defect 82 = .ok (.iconst 1, 1) := by decide +kernel
theorem dX6_defect_83 : decode cX6_defect 83 = .ok (.goto 4, 3) := by decide +kernel
theorem dX6_defect_86 : decode cX6_defect 86 = .ok (.iconst 0, 1) := by decide +kernel
theorem dX6_defect_87 : decode cX6_defect 87 = .ok (.invokevirtual 110, 3) := by decide +kernel
theorem dX6_defect_90 : decode cX6_defect 90 = .ok (.ifCond .ne 5, 3) := by decide +kernel
theorem dX6_defect_93 : decode cX6_defect 93 = .ok (.iconst 0, 1) := by decide +kernel
theorem dX6_defect_94 : decode cX6_defect 94 = .ok (.ireturn, 1) := by decide +kernel
theorem dX6_defect_95 : decode cX6_defect 95 = .ok (.aload_n 0, 1) := by decide +kernel
theorem dX6_defect_96 : decode cX6_defect 96 = .ok (.getfield 22, 3) := by decide +kernel
theorem dX6_defect_99 : decode cX6_defect 99 = .ok (.bipush 8, 2) := by decide +kernel
theorem dX6_defect_101 : decode cX6_defect 101 = .ok (.iload_n 1, 1) := by decide +kernel
theorem dX6_defect_102 : decode cX6_defect 102 = .ok (.imul, 1) := by decide +kernel
theorem dX6_defect_103 : decode cX6_defect 103 = .ok (.aload_n 0, 1) := by decide +kernel
theorem dX6_defect_104 : decode cX6_defect 104 = .ok (.getfield 28, 3) := by decide +kernel
theorem dX6_defect_107 : decode cX6_defect 107 = .ok (.iload_n 1, 1) := by decide +kernel
theorem dX6_defect_108 : decode cX6_defect 108 = .ok (.iaload, 1) := by decide +kernel
theorem dX6_defect_109 : decode cX6_defect 109 = .ok (.iadd, 1) := by decide +kernel
theorem dX6_defect_110 : decode cX6_defect 110 = .ok (.iload_n 2, 1) := by decide +kernel
theorem dX6_defect_111 : decode cX6_defect 111 = .ok (.iastore, 1) := by decide +kernel
theorem dX6_defect_112 : decode cX6_defect 112 = .ok (.aload_n 0, 1) := by decide +kernel
theorem dX6_defect_113 : decode cX6_defect 113 = .ok (.getfield 25, 3) := by decide +kernel
theorem dX6_defect_116 : decode cX6_defect 116 = .ok (.bipush 8, 2) := by decide +kernel
theorem dX6_defect_118 : decode cX6_defect 118 = .ok (.iload_n 1, 1) := by decide +kernel
theorem dX6_defect_119 : decode cX6_defect 119 = .ok (.imul, 1) := by decide +kernel
theorem dX6_defect_120 : decode cX6_defect 120 = .ok (.aload_n 0, 1) := by decide +kernel
theorem dX6_defect_121 : decode cX6_defect 121 = .ok (.getfield 28, 3) := by decide +kernel
theorem dX6_defect_124 : decode cX6_defect 124 = .ok (.iload_n 1, 1) := by decide +kernel
theorem dX6_defect_125 : decode cX6_defect 125 = .ok (.iaload, 1) := by decide +kernel
theorem dX6_defect_126 : decode cX6_defect 126 = .ok (.iadd, 1) := by decide +kernel
theorem dX6_defect_127 : decode cX6_defect 127 = .ok (.iload_n 3, 1) := by decide +kernel
theorem dX6_defect_128 : decode cX6_defect 128 = .ok (.iastore, 1) := by decide +kernel
theorem dX6_defect_129 : decode cX6_defect 129 = .ok (.aload_n 0, 1) := by decide +kernel
theorem dX6_defect_130 : decode cX6_defect 130 = .ok (.getfield 28, 3) := by decide +kernel
theorem dX6_defect_133 : decode cX6_defect 133 = .ok (.iload_n 1, 1) := by decide +kernel
theorem dX6_defect_134 : decode cX6_defect 134 = .ok (.dup2, 1) := by decide +kernel
theorem dX6_defect_135 : decode cX6_defect 135 = .ok (.iaload, 1) := by decide +kernel
theorem dX6_defect_136 : decode cX6_defect 136 = .ok (.iconst 1, 1) := by decide +kernel
theorem dX6_defect_137 : decode cX6_defect 137 = .ok (.iadd, 1) := by decide +kernel
theorem dX6_defect_138 : decode cX6_defect 138 = .ok (.iastore, 1) := by decide +kernel
theorem dX6_defect_139 : decode cX6_defect 139 = .ok (.aload_n 0, 1) := by decide +kernel
theorem dX6_defect_140 : decode cX6_defect 140 = .ok (.iload_n 1, 1) := by decide +kernel
theorem dX6_defect_141 : decode cX6_defect 141 = .ok (.invokevirtual 113, 3) := by decide +kernel
theorem dX6_defect_144 : decode cX6_defect 144 = .ok (.ireturn, 1) := by decide +kernel
theorem dX6_setRules_0 : decode cX6_setRules 0 = .ok (.aload_n 0, 1) := by decide +kernel
theorem dX6_setRules_1 : decode cX6_setRules 1 = .ok (.iload_n 1, 1) := by decide +kernel
theorem dX6_setRules_2 : decode cX6_setRules 2 = .ok (.iconst 0, 1) := by decide +kernel
theorem dX6_setRules_3 : decode cX6_setRules 3 = .ok (.bipush 100, 2) := by decide +kernel
theorem dX6_setRules_5 : decode cX6_setRules 5 = .ok (.invokestatic 95, 3) := by decide +kernel
theorem dX6_setRules_8 : decode cX6_setRules 8 = .ok (.ifCond .eq 28, 3) := by decide +kernel
theorem dX6_setRules_11 : decode cX6_setRules 11 = .ok (.iload_n 2, 1) := by decide +kernel
theorem dX6_setRules_12 : decode cX6_setRules 12 = .ok (.iconst 0, 1) := by decide +kernel
theorem dX6_setRules_13 : decode cX6_setRules 13 = .ok (.sipush 500, 3) := by decide +kernel
theorem dX6_setRules_16 : decode cX6_setRules 16 = .ok (.invokestatic 95, 3) := by decide +kernel
theorem dX6_setRules_19 : decode cX6_setRules 19 = .ok (.ifCond .eq 17, 3) := by decide +kernel
theorem dX6_setRules_22 : decode cX6_setRules 22 = .ok (.iload_n 3, 1) := by decide +kernel
theorem dX6_setRules_23 : decode cX6_setRules 23 = .ok (.iconst 2, 1) := by decide +kernel
theorem dX6_setRules_24 : decode cX6_setRules 24 = .ok (.bipush 16, 2) := by decide +kernel
theorem dX6_setRules_26 : decode cX6_setRules 26 = .ok (.invokestatic 95, 3) := by decide +kernel
theorem dX6_setRules_29 : decode cX6_setRules 29 = .ok (.ifCond .eq 7, 3) := by decide +kernel
theorem dX6_setRules_32 : decode cX6_setRules 32 = .ok (.iconst 1, 1) := by decide +kernel
theorem dX6_setRules_33 : decode cX6_setRules 33 = .ok (.goto 4, 3) := by decide +kernel
theorem dX6_setRules_36 : decode cX6_setRules 36 = .ok (.iconst 0, 1) := by decide +kernel
theorem dX6_setRules_37 : decode cX6_setRules 37 = .ok (.invokevirtual 117, 3) := by decide +kernel
theorem dX6_setRules_40 : decode cX6_setRules 40 = .ok (.ifCond .ne 5, 3) := by decide +kernel
theorem dX6_setRules_43 : decode cX6_setRules 43 = .ok (.iconst 0, 1) := by decide +kernel
theorem dX6_setRules_44 : decode cX6_setRules 44 = .ok (.ireturn, 1) := by decide +kernel
theorem dX6_setRules_45 : decode cX6_setRules 45 = .ok (.aload_n 0, 1) := by decide +kernel
theorem dX6_setRules_46 : decode cX6_setRules 46 = .ok (.getfield 31, 3) := by decide +kernel
theorem dX6_setRules_49 : decode cX6_setRules 49 = .ok (.istore 4, 2) := by decide +kernel
theorem dX6_setRules_51 : decode cX6_setRules 51 = .ok (.aload_n 0, 1) := by decide +kernel
theorem dX6_setRules_52 : decode cX6_setRules 52 = .ok (.iload_n 1, 1) := by decide +kernel
theorem dX6_setRules_53 : decode cX6_setRules 53 = .ok (.putfield 31, 3) := by decide +kernel
theorem dX6_setRules_56 : decode cX6_setRules 56 = .ok (.aload_n 0, 1) := by decide +kernel
theorem dX6_setRules_57 : decode cX6_setRules 57 = .ok (.iload_n 2, 1) := by decide +kernel
theorem dX6_setRules_58 : decode cX6_setRules 58 = .ok (.putfield 35, 3) := by decide +kernel
theorem dX6_setRules_61 : decode cX6_setRules 61 = .ok (.aload_n 0, 1) := by decide +kernel
theorem dX6_setRules_62 : decode cX6_setRules 62 = .ok (.iload_n 3, 1) := by decide +kernel
theorem dX6_setRules_63 : decode cX6_setRules 63 = .ok (.putfield 38, 3) := by decide +kernel
theorem dX6_setRules_66 : decode cX6_setRules 66 = .ok (.iload 4, 2) := by decide +kernel
theorem dX6_setRules_68 : decode cX6_setRules 68 = .ok (.ireturn, 1) := by decide +kernel
theorem dX6_order_0 : decode cX6_order 0 = .ok (.aload_n 0, 1) := by decide +kernel
theorem dX6_order_1 : decode cX6_order 1 = .ok (.iload_n 1, 1) := by decide +kernel
theorem dX6_order_2 : decode cX6_order 2 = .ok (.bipush 20, 2) := by decide +kernel
theorem dX6_order_4 : decode cX6_order 4 = .ok (.sipush 1000, 3) := by decide +kernel
theorem dX6_order_7 : decode cX6_order 7 = .ok (.invokestatic 95, 3) := by decide +kernel
theorem dX6_order_10 : decode cX6_order 10 = .ok (.ifCond .eq 17, 3) := by decide +kernel
theorem dX6_order_13 : decode cX6_order 13 = .ok (.iload_n 2, 1) := by decide +kernel
theorem dX6_order_14 : decode cX6_order 14 = .ok (.iconst 1, 1) := by decide +kernel
theorem dX6_order_15 : decode cX6_order 15 = .ok (.ldc 120, 2) := by decide +kernel
theorem dX6_order_17 : decode cX6_order 17 = .ok (.invokestatic 95, 3) := by decide +kernel
theorem dX6_order_20 : decode cX6_order 20 = .ok (.ifCond .eq 7, 3) := by decide +kernel
theorem dX6_order_23 : decode cX6_order 23 = .ok (.iconst 1, 1) := by decide +kernel
theorem dX6_order_24 : decode cX6_order 24 = .ok (.goto 4, 3) := by decide +kernel
theorem dX6_order_27 : decode cX6_order 27 = .ok (.iconst 0, 1) := by decide +kernel
theorem dX6_order_28 : decode cX6_order 28 = .ok (.aload_n 0, 1) := by decide +kernel
theorem dX6_order_29 : decode cX6_order 29 = .ok (.getfield 121, 3) := by decide +kernel
theorem dX6_order_32 : decode cX6_order 32 = .ok (.bipush 12, 2) := by decide +kernel
theorem dX6_order_34 : decode cX6_order 34 = .ok (.if_icmp .ge 7, 3) := by decide +kernel
theorem dX6_order_37 : decode cX6_order 37 = .ok (.iconst 1, 1) := by decide +kernel
theorem dX6_order_38 : decode cX6_order 38 = .ok (.goto 4, 3) := by decide +kernel
theorem dX6_order_41 : decode cX6_order 41 = .ok (.iconst 0, 1) := by decide +kernel
theorem dX6_order_42 : decode cX6_order 42 = .ok (.invokevirtual 102, 3) := by decide +kernel
theorem dX6_order_45 : decode cX6_order 45 = .ok (.ifCond .ne 5, 3) := by decide +kernel
theorem dX6_order_48 : decode cX6_order 48 = .ok (.iconst 0, 1) := by decide +kernel
theorem dX6_order_49 : decode cX6_order 49 = .ok (.ireturn, 1) := by decide +kernel
theorem dX6_order_50 : decode cX6_order 50 = .ok (.aload_n 0, 1) := by decide +kernel
theorem dX6_order_51 : decode cX6_order 51 = .ok (.getfield 41, 3) := by decide +kernel
theorem dX6_order_54 : decode cX6_order 54 = .ok (.aload_n 0, 1) := by decide +kernel
theorem dX6_order_55 : decode cX6_order 55 = .ok (.getfield 121, 3) := by decide +kernel
theorem dX6_order_58 : decode cX6_order 58 = .ok (.iload_n 1, 1) := by decide +kernel
theorem dX6_order_59 : decode cX6_order 59 = .ok (.iastore, 1) := by decide +kernel
theorem dX6_order_60 : decode cX6_order 60 = .ok (.aload_n 0, 1) := by decide +kernel
theorem dX6_order_61 : decode cX6_order 61 = .ok (.getfield 44, 3) := by decide +kernel
theorem dX6_order_64 : decode cX6_order 64 = .ok (.aload_n 0, 1) := by decide +kernel
theorem dX6_order_65 : decode cX6_order 65 = .ok (.getfield 121, 3) := by decide +kernel
theorem dX6_order_68 : decode cX6_order 68 = .ok (.iload_n 2, 1) := by decide +kernel
theorem dX6_order_69 : decode cX6_order 69 = .ok (.iastore, 1) := by decide +kernel
theorem dX6_order_70 : decode cX6_order 70 = .ok (.aload_n 0, 1) := by decide +kernel
theorem dX6_order_71 : decode cX6_order 71 = .ok (.getfield 50, 3) := by decide +kernel
theorem dX6_order_74 : decode cX6_order 74 = .ok (.aload_n 0, 1) := by decide +kernel
theorem dX6_order_75 : decode cX6_order 75 = .ok (.getfield 121, 3) := by decide +kernel
theorem dX6_order_78 : decode cX6_order 78 = .ok (.iconst (-1), 1) := by decide +kernel
theorem dX6_order_79 : decode cX6_order 79 = .ok (.iastore, 1) := by decide +kernel
theorem dX6_order_80 : decode cX6_order 80 = .ok (.aload_n 0, 1) := by decide +kernel
theorem dX6_order_81 : decode cX6_order 81 = .ok (.dup, 1) := by decide +kernel
theorem dX6_order_82 : decode cX6_order 82 = .ok (.getfield 121, 3) := by decide +kernel
theorem dX6_order_85 : decode cX6_order 85 = .ok (.iconst 1, 1) := by decide +kernel
theorem dX6_order_86 : decode cX6_order 86 = .ok (.iadd, 1) := by decide +kernel
theorem dX6_order_87 : decode cX6_order 87 = .ok (.putfield 121, 3) := by decide +kernel
theorem dX6_order_90 : decode cX6_order 90 = .ok (.aload_n 0, 1) := by decide +kernel
theorem dX6_order_91 : decode cX6_order 91 = .ok (.getfield 121, 3) := by decide +kernel
theorem dX6_order_94 : decode cX6_order 94 = .ok (.iconst 1, 1) := by decide +kernel
theorem dX6_order_95 : decode cX6_order 95 = .ok (.isub, 1) := by decide +kernel
theorem dX6_order_96 : decode cX6_order 96 = .ok (.ireturn, 1) := by decide +kernel
theorem dX6_drafts_0 : decode cX6_drafts 0 = .ok (.aload_n 0, 1) := by decide +kernel
theorem dX6_drafts_1 : decode cX6_drafts 1 = .ok (.getfield 53, 3) := by decide +kernel
theorem dX6_drafts_4 : decode cX6_drafts 4 = .ok (.sipush 150, 3) := by decide +kernel
theorem dX6_drafts_7 : decode cX6_drafts 7 = .ok (.aload_n 0, 1) := by decide +kernel
theorem dX6_drafts_8 : decode cX6_drafts 8 = .ok (.getfield 56, 3) := by decide +kernel
theorem dX6_drafts_11 : decode cX6_drafts 11 = .ok (.bipush 10, 2) := by decide +kernel
theorem dX6_drafts_13 : decode cX6_drafts 13 = .ok (.iaload, 1) := by decide +kernel
theorem dX6_drafts_14 : decode cX6_drafts 14 = .ok (.iadd, 1) := by decide +kernel
theorem dX6_drafts_15 : decode cX6_drafts 15 = .ok (.iload_n 1, 1) := by decide +kernel
theorem dX6_drafts_16 : decode cX6_drafts 16 = .ok (.iastore, 1) := by decide +kernel
theorem dX6_drafts_17 : decode cX6_drafts 17 = .ok (.aload_n 0, 1) := by decide +kernel
theorem dX6_drafts_18 : decode cX6_drafts 18 = .ok (.getfield 56, 3) := by decide +kernel
theorem dX6_drafts_21 : decode cX6_drafts 21 = .ok (.bipush 10, 2) := by decide +kernel
theorem dX6_drafts_23 : decode cX6_drafts 23 = .ok (.dup2, 1) := by decide +kernel
theorem dX6_drafts_24 : decode cX6_drafts 24 = .ok (.iaload, 1) := by decide +kernel
theorem dX6_drafts_25 : decode cX6_drafts 25 = .ok (.iconst 1, 1) := by decide +kernel
theorem dX6_drafts_26 : decode cX6_drafts 26 = .ok (.iadd, 1) := by decide +kernel
theorem dX6_drafts_27 : decode cX6_drafts 27 = .ok (.iastore, 1) := by decide +kernel
theorem dX6_drafts_28 : decode cX6_drafts 28 = .ok (.return_, 1) := by decide +kernel
theorem dX6_addSlit_0 : decode cX6_addSlit 0 = .ok (.aload_n 0, 1) := by decide +kernel
theorem dX6_addSlit_1 : decode cX6_addSlit 1 = .ok (.iload_n 1, 1) := by decide +kernel
theorem dX6_addSlit_2 : decode cX6_addSlit 2 = .ok (.bipush 20, 2) := by decide +kernel
theorem dX6_addSlit_4 : decode cX6_addSlit 4 = .ok (.sipush 1000, 3) := by decide +kernel
theorem dX6_addSlit_7 : decode cX6_addSlit 7 = .ok (.invokestatic 95, 3) := by decide +kernel
theorem dX6_addSlit_10 : decode cX6_addSlit 10 = .ok (.aload_n 0, 1) := by decide +kernel
theorem dX6_addSlit_11 : decode cX6_addSlit 11 = .ok (.getfield 56, 3) := by decide +kernel
theorem dX6_addSlit_14 : decode cX6_addSlit 14 = .ok (.bipush 10, 2) := by decide +kernel
theorem dX6_addSlit_16 : decode cX6_addSlit 16 = .ok (.iaload, 1) := by decide +kernel
theorem dX6_addSlit_17 : decode cX6_addSlit 17 = .ok (.bipush 15, 2) := by decide +kernel
theorem dX6_addSlit_19 : decode cX6_addSlit 19 = .ok (.if_icmp .ge 7, 3) := by decide +kernel
theorem dX6_addSlit_22 : decode cX6_addSlit 22 = .ok (.iconst 1, 1) := by decide +kernel
theorem dX6_addSlit_23 : decode cX6_addSlit 23 = .ok (.goto 4, 3) := by decide +kernel
theorem dX6_addSlit_26 : decode cX6_addSlit 26 = .ok (.iconst 0, 1) := by decide +kernel
theorem dX6_addSlit_27 : decode cX6_addSlit 27 = .ok (.invokevirtual 102, 3) := by decide +kernel
theorem dX6_addSlit_30 : decode cX6_addSlit 30 = .ok (.ifCond .ne 5, 3) := by decide +kernel
theorem dX6_addSlit_33 : decode cX6_addSlit 33 = .ok (.iconst 0, 1) := by decide +kernel
theorem dX6_addSlit_34 : decode cX6_addSlit 34 = .ok (.ireturn, 1) := by decide +kernel
theorem dX6_addSlit_35 : decode cX6_addSlit 35 = .ok (.aload_n 0, 1) := by decide +kernel
theorem dX6_addSlit_36 : decode cX6_addSlit 36 = .ok (.iload_n 1, 1) := by decide +kernel
theorem dX6_addSlit_37 : decode cX6_addSlit 37 = .ok (.invokevirtual 124, 3) := by decide +kernel
theorem dX6_addSlit_40 : decode cX6_addSlit 40 = .ok (.aload_n 0, 1) := by decide +kernel
theorem dX6_addSlit_41 : decode cX6_addSlit 41 = .ok (.getfield 56, 3) := by decide +kernel
theorem dX6_addSlit_44 : decode cX6_addSlit 44 = .ok (.bipush 10, 2) := by decide +kernel
theorem dX6_addSlit_46 : decode cX6_addSlit 46 = .ok (.iaload, 1) := by decide +kernel
theorem dX6_addSlit_47 : decode cX6_addSlit 47 = .ok (.ireturn, 1) := by decide +kernel
theorem dX6_clearDraft_0 : decode cX6_clearDraft 0 = .ok (.aload_n 0, 1) := by decide +kernel
theorem dX6_clearDraft_1 : decode cX6_clearDraft 1 = .ok (.getfield 56, 3) := by decide +kernel
theorem dX6_clearDraft_4 : decode cX6_clearDraft 4 = .ok (.bipush 10, 2) := by decide +kernel
theorem dX6_clearDraft_6 : decode cX6_clearDraft 6 = .ok (.iaload, 1) := by decide +kernel
theorem dX6_clearDraft_7 : decode cX6_clearDraft 7 = .ok (.istore_n 1, 1) := by decide +kernel
theorem dX6_clearDraft_8 : decode cX6_clearDraft 8 = .ok (.aload_n 0, 1) := by decide +kernel
theorem dX6_clearDraft_9 : decode cX6_clearDraft 9 = .ok (.getfield 56, 3) := by decide +kernel
theorem dX6_clearDraft_12 : decode cX6_clearDraft 12 = .ok (.bipush 10, 2) := by decide +kernel
theorem dX6_clearDraft_14 : decode cX6_clearDraft 14 = .ok (.iconst 0, 1) := by decide +kernel
theorem dX6_clearDraft_15 : decode cX6_clearDraft 15 = .ok (.iastore, 1) := by decide +kernel
theorem dX6_clearDraft_16 : decode cX6_clearDraft 16 = .ok (.aload_n 0, 1) := by decide +kernel
theorem dX6_clearDraft_17 : decode cX6_clearDraft 17 = .ok (.iload_n 1, 1) := by decide +kernel
theorem dX6_clearDraft_18 : decode cX6_clearDraft 18 = .ok (.invokevirtual 128, 3) := by decide +kernel
theorem dX6_clearDraft_21 : decode cX6_clearDraft 21 = .ok (.ireturn, 1) := by decide +kernel
theorem dX6_draftSlits_0 : decode cX6_draftSlits 0 = .ok (.aload_n 0, 1) := by decide +kernel
theorem dX6_draftSlits_1 : decode cX6_draftSlits 1 = .ok (.aload_n 0, 1) := by decide +kernel
theorem dX6_draftSlits_2 : decode cX6_draftSlits 2 = .ok (.getfield 56, 3) := by decide +kernel
theorem dX6_draftSlits_5 : decode cX6_draftSlits 5 = .ok (.bipush 10, 2) := by decide +kernel
theorem dX6_draftSlits_7 : decode cX6_draftSlits 7 = .ok (.iaload, 1) := by decide +kernel
theorem dX6_draftSlits_8 : decode cX6_draftSlits 8 = .ok (.invokevirtual 128, 3) := by decide +kernel
theorem dX6_draftSlits_11 : decode cX6_draftSlits 11 = .ok (.ireturn, 1) := by decide +kernel
theorem dX6_draftWidth_0 : decode cX6_draftWidth 0 = .ok (.aload_n 0, 1) := by decide +kernel
theorem dX6_draftWidth_1 : decode cX6_draftWidth 1 = .ok (.iload_n 1, 1) := by decide +kernel
theorem dX6_draftWidth_2 : decode cX6_draftWidth 2 = .ok (.iconst 0, 1) := by decide +kernel
theorem dX6_draftWidth_3 : decode cX6_draftWidth 3 = .ok (.aload_n 0, 1) := by decide +kernel
theorem dX6_draftWidth_4 : decode cX6_draftWidth 4 = .ok (.getfield 56, 3) := by decide +kernel
theorem dX6_draftWidth_7 : decode cX6_draftWidth 7 = .ok (.bipush 10, 2) := by decide +kernel
theorem dX6_draftWidth_9 : decode cX6_draftWidth 9 = .ok (.iaload, 1) := by decide +kernel
theorem dX6_draftWidth_10 : decode cX6_draftWidth 10 = .ok (.iconst 1, 1) := by decide +kernel
theorem dX6_draftWidth_11 : decode cX6_draftWidth 11 = .ok (.isub, 1) := by decide +kernel
theorem dX6_draftWidth_12 : decode cX6_draftWidth 12 = .ok (.invokestatic 95, 3) := by decide +kernel
theorem dX6_draftWidth_15 : decode cX6_draftWidth 15 = .ok (.invokevirtual 117, 3) := by decide +kernel
theorem dX6_draftWidth_18 : decode cX6_draftWidth 18 = .ok (.ifCond .eq 16, 3) := by decide +kernel
theorem dX6_draftWidth_21 : decode cX6_draftWidth 21 = .ok (.aload_n 0, 1) := by decide +kernel
theorem dX6_draftWidth_22 : decode cX6_draftWidth 22 = .ok (.getfield 53, 3) := by decide +kernel
theorem dX6_draftWidth_25 : decode cX6_draftWidth 25 = .ok (.sipush 150, 3) := by decide +kernel
theorem dX6_draftWidth_28 : decode cX6_draftWidth 28 = .ok (.iload_n 1, 1) := by decide +kernel
theorem dX6_draftWidth_29 : decode cX6_draftWidth 29 = .ok (.iadd, 1) := by decide +kernel
theorem dX6_draftWidth_30 : decode cX6_draftWidth 30 = .ok (.iaload, 1) := by decide +kernel
theorem dX6_draftWidth_31 : decode cX6_draftWidth 31 = .ok (.goto 4, 3) := by decide +kernel
theorem dX6_draftWidth_34 : decode cX6_draftWidth 34 = .ok (.iconst 0, 1) := by decide +kernel
theorem dX6_draftWidth_35 : decode cX6_draftWidth 35 = .ok (.ireturn, 1) := by decide +kernel
theorem dX6_keep_0 : decode cX6_keep 0 = .ok (.aload_n 0, 1) := by decide +kernel
theorem dX6_keep_1 : decode cX6_keep 1 = .ok (.aload_n 0, 1) := by decide +kernel
theorem dX6_keep_2 : decode cX6_keep 2 = .ok (.getfield 56, 3) := by decide +kernel
theorem dX6_keep_5 : decode cX6_keep 5 = .ok (.bipush 10, 2) := by decide +kernel
theorem dX6_keep_7 : decode cX6_keep 7 = .ok (.iaload, 1) := by decide +kernel
theorem dX6_keep_8 : decode cX6_keep 8 = .ok (.ifCond .le 16, 3) := by decide +kernel
theorem dX6_keep_11 : decode cX6_keep 11 = .ok (.aload_n 0, 1) := by decide +kernel
theorem dX6_keep_12 : decode cX6_keep 12 = .ok (.getfield 99, 3) := by decide +kernel
theorem dX6_keep_15 : decode cX6_keep 15 = .ok (.bipush 10, 2) := by decide +kernel
theorem dX6_keep_17 : decode cX6_keep 17 = .ok (.if_icmp .ge 7, 3) := by decide +kernel
theorem dX6_keep_20 : decode cX6_keep 20 = .ok (.iconst 1, 1) := by decide +kernel
theorem dX6_keep_21 : decode cX6_keep 21 = .ok (.goto 4, 3) := by decide +kernel
theorem dX6_keep_24 : decode cX6_keep 24 = .ok (.iconst 0, 1) := by decide +kernel
theorem dX6_keep_25 : decode cX6_keep 25 = .ok (.invokevirtual 117, 3) := by decide +kernel
theorem dX6_keep_28 : decode cX6_keep 28 = .ok (.ifCond .ne 5, 3) := by decide +kernel
theorem dX6_keep_31 : decode cX6_keep 31 = .ok (.iconst 0, 1) := by decide +kernel
theorem dX6_keep_32 : decode cX6_keep 32 = .ok (.ireturn, 1) := by decide +kernel
theorem dX6_keep_33 : decode cX6_keep 33 = .ok (.aload_n 0, 1) := by decide +kernel
theorem dX6_keep_34 : decode cX6_keep 34 = .ok (.getfield 56, 3) := by decide +kernel
theorem dX6_keep_37 : decode cX6_keep 37 = .ok (.aload_n 0, 1) := by decide +kernel
theorem dX6_keep_38 : decode cX6_keep 38 = .ok (.getfield 99, 3) := by decide +kernel
theorem dX6_keep_41 : decode cX6_keep 41 = .ok (.aload_n 0, 1) := by decide +kernel
theorem dX6_keep_42 : decode cX6_keep 42 = .ok (.getfield 56, 3) := by decide +kernel
theorem dX6_keep_45 : decode cX6_keep 45 = .ok (.bipush 10, 2) := by decide +kernel
theorem dX6_keep_47 : decode cX6_keep 47 = .ok (.iaload, 1) := by decide +kernel
theorem dX6_keep_48 : decode cX6_keep 48 = .ok (.iastore, 1) := by decide +kernel
theorem dX6_keep_49 : decode cX6_keep 49 = .ok (.iconst 0, 1) := by decide +kernel
theorem dX6_keep_50 : decode cX6_keep 50 = .ok (.istore_n 1, 1) := by decide +kernel
theorem dX6_keep_51 : decode cX6_keep 51 = .ok (.iload_n 1, 1) := by decide +kernel
theorem dX6_keep_52 : decode cX6_keep 52 = .ok (.aload_n 0, 1) := by decide +kernel
theorem dX6_keep_53 : decode cX6_keep 53 = .ok (.getfield 56, 3) := by decide +kernel
theorem dX6_keep_56 : decode cX6_keep 56 = .ok (.bipush 10, 2) := by decide +kernel
theorem dX6_keep_58 : decode cX6_keep 58 = .ok (.iaload, 1) := by decide +kernel
theorem dX6_keep_59 : decode cX6_keep 59 = .ok (.if_icmp .ge 33, 3) := by decide +kernel
theorem dX6_keep_62 : decode cX6_keep 62 = .ok (.aload_n 0, 1) := by decide +kernel
theorem dX6_keep_63 : decode cX6_keep 63 = .ok (.getfield 53, 3) := by decide +kernel
theorem dX6_keep_66 : decode cX6_keep 66 = .ok (.bipush 15, 2) := by decide +kernel
theorem dX6_keep_68 : decode cX6_keep 68 = .ok (.aload_n 0, 1) := by decide +kernel
theorem dX6_keep_69 : decode cX6_keep 69 = .ok (.getfield 99, 3) := by decide +kernel
theorem dX6_keep_72 : decode cX6_keep 72 = .ok (.imul, 1) := by decide +kernel
theorem dX6_keep_73 : decode cX6_keep 73 = .ok (.iload_n 1, 1) := by decide +kernel
theorem dX6_keep_74 : decode cX6_keep 74 = .ok (.iadd, 1) := by decide +kernel
theorem dX6_keep_75 : decode cX6_keep 75 = .ok (.aload_n 0, 1) := by decide +kernel
theorem dX6_keep_76 : decode cX6_keep 76 = .ok (.getfield 53, 3) := by decide +kernel
theorem dX6_keep_79 : decode cX6_keep 79 = .ok (.sipush 150, 3) := by decide +kernel
theorem dX6_keep_82 : decode cX6_keep 82 = .ok (.iload_n 1, 1) := by decide +kernel
theorem dX6_keep_83 : decode cX6_keep 83 = .ok (.iadd, 1) := by decide +kernel
theorem dX6_keep_84 : decode cX6_keep 84 = .ok (.iaload, 1) := by decide +kernel
theorem dX6_keep_85 : decode cX6_keep 85 = .ok (.iastore, 1) := by decide +kernel
theorem dX6_keep_86 : decode cX6_keep 86 = .ok (.iinc 1 1, 3) := by decide +kernel
theorem dX6_keep_89 : decode cX6_keep 89 = .ok (.goto (-38), 3) := by decide +kernel
theorem dX6_keep_92 : decode cX6_keep 92 = .ok (.aload_n 0, 1) := by decide +kernel
theorem dX6_keep_93 : decode cX6_keep 93 = .ok (.getfield 56, 3) := by decide +kernel
theorem dX6_keep_96 : decode cX6_keep 96 = .ok (.bipush 10, 2) := by decide +kernel
theorem dX6_keep_98 : decode cX6_keep 98 = .ok (.iconst 0, 1) := by decide +kernel
theorem dX6_keep_99 : decode cX6_keep 99 = .ok (.iastore, 1) := by decide +kernel
theorem dX6_keep_100 : decode cX6_keep 100 = .ok (.aload_n 0, 1) := by decide +kernel
theorem dX6_keep_101 : decode cX6_keep 101 = .ok (.dup, 1) := by decide +kernel
theorem dX6_keep_102 : decode cX6_keep 102 = .ok (.getfield 99, 3) := by decide +kernel
theorem dX6_keep_105 : decode cX6_keep 105 = .ok (.iconst 1, 1) := by decide +kernel
theorem dX6_keep_106 : decode cX6_keep 106 = .ok (.iadd, 1) := by decide +kernel
theorem dX6_keep_107 : decode cX6_keep 107 = .ok (.putfield 99, 3) := by decide +kernel
theorem dX6_keep_110 : decode cX6_keep 110 = .ok (.aload_n 0, 1) := by decide +kernel
theorem dX6_keep_111 : decode cX6_keep 111 = .ok (.getfield 99, 3) := by decide +kernel
theorem dX6_keep_114 : decode cX6_keep 114 = .ok (.iconst 1, 1) := by decide +kernel
theorem dX6_keep_115 : decode cX6_keep 115 = .ok (.isub, 1) := by decide +kernel
theorem dX6_keep_116 : decode cX6_keep 116 = .ok (.ireturn, 1) := by decide +kernel
theorem dX6_canRun_0 : decode cX6_canRun 0 = .ok (.iconst 2, 1) := by decide +kernel
theorem dX6_canRun_1 : decode cX6_canRun 1 = .ok (.aload_n 0, 1) := by decide +kernel
theorem dX6_canRun_2 : decode cX6_canRun 2 = .ok (.getfield 31, 3) := by decide +kernel
theorem dX6_canRun_5 : decode cX6_canRun 5 = .ok (.imul, 1) := by decide +kernel
theorem dX6_canRun_6 : decode cX6_canRun 6 = .ok (.istore_n 3, 1) := by decide +kernel
theorem dX6_canRun_7 : decode cX6_canRun 7 = .ok (.iconst 0, 1) := by decide +kernel
theorem dX6_canRun_8 : decode cX6_canRun 8 = .ok (.istore 4, 2) := by decide +kernel
theorem dX6_canRun_10 : decode cX6_canRun 10 = .ok (.iload 4, 2) := by decide +kernel
theorem dX6_canRun_12 : decode cX6_canRun 12 = .ok (.aload_n 0, 1) := by decide +kernel
theorem dX6_canRun_13 : decode cX6_canRun 13 = .ok (.getfield 56, 3) := by decide +kernel
theorem dX6_canRun_16 : decode cX6_canRun 16 = .ok (.iload_n 1, 1) := by decide +kernel
theorem dX6_canRun_17 : decode cX6_canRun 17 = .ok (.iaload, 1) := by decide +kernel
theorem dX6_canRun_18 : decode cX6_canRun 18 = .ok (.if_icmp .ge 24, 3) := by decide +kernel
theorem dX6_canRun_21 : decode cX6_canRun 21 = .ok (.iload_n 3, 1) := by decide +kernel
theorem dX6_canRun_22 : decode cX6_canRun 22 = .ok (.aload_n 0, 1) := by decide +kernel
theorem dX6_canRun_23 : decode cX6_canRun 23 = .ok (.getfield 53, 3) := by decide +kernel
theorem dX6_canRun_26 : decode cX6_canRun 26 = .ok (.bipush 15, 2) := by decide +kernel
theorem dX6_canRun_28 : decode cX6_canRun 28 = .ok (.iload_n 1, 1) := by decide +kernel
theorem dX6_canRun_29 : decode cX6_canRun 29 = .ok (.imul, 1) := by decide +kernel
theorem dX6_canRun_30 : decode cX6_canRun 30 = .ok (.iload 4, 2) := by decide +kernel
theorem dX6_canRun_32 : decode cX6_canRun 32 = .ok (.iadd, 1) := by decide +kernel
theorem dX6_canRun_33 : decode cX6_canRun 33 = .ok (.iaload, 1) := by decide +kernel
theorem dX6_canRun_34 : decode cX6_canRun 34 = .ok (.iadd, 1) := by decide +kernel
theorem dX6_canRun_35 : decode cX6_canRun 35 = .ok (.istore_n 3, 1) := by decide +kernel
theorem dX6_canRun_36 : decode cX6_canRun 36 = .ok (.iinc 4 1, 3) := by decide +kernel
theorem dX6_canRun_39 : decode cX6_canRun 39 = .ok (.goto (-29), 3) := by decide +kernel
theorem dX6_canRun_42 : decode cX6_canRun 42 = .ok (.iload_n 3, 1) := by decide +kernel
theorem dX6_canRun_43 : decode cX6_canRun 43 = .ok (.aload_n 0, 1) := by decide +kernel
theorem dX6_canRun_44 : decode cX6_canRun 44 = .ok (.getfield 7, 3) := by decide +kernel
theorem dX6_canRun_47 : decode cX6_canRun 47 = .ok (.iload_n 2, 1) := by decide +kernel
theorem dX6_canRun_48 : decode cX6_canRun 48 = .ok (.iaload, 1) := by decide +kernel
theorem dX6_canRun_49 : decode cX6_canRun 49 = .ok (.if_icmp .gt 22, 3) := by decide +kernel
theorem dX6_canRun_52 : decode cX6_canRun 52 = .ok (.aload_n 0, 1) := by decide +kernel
theorem dX6_canRun_53 : decode cX6_canRun 53 = .ok (.getfield 56, 3) := by decide +kernel
theorem dX6_canRun_56 : decode cX6_canRun 56 = .ok (.iload_n 1, 1) := by decide +kernel
theorem dX6_canRun_57 : decode cX6_canRun 57 = .ok (.iaload, 1) := by decide +kernel
theorem dX6_canRun_58 : decode cX6_canRun 58 = .ok (.iconst 1, 1) := by decide +kernel
theorem dX6_canRun_59 : decode cX6_canRun 59 = .ok (.iadd, 1) := by decide +kernel
theorem dX6_canRun_60 : decode cX6_canRun 60 = .ok (.aload_n 0, 1) := by decide +kernel
theorem dX6_canRun_61 : decode cX6_canRun 61 = .ok (.getfield 38, 3) := by decide +kernel
theorem dX6_canRun_64 : decode cX6_canRun 64 = .ok (.if_icmp .gt 7, 3) := by decide +kernel
theorem dX6_canRun_67 : decode cX6_canRun 67 = .ok (.iconst 1, 1) := by decide +kernel
theorem dX6_canRun_68 : decode cX6_canRun 68 = .ok (.goto 4, 3) := by decide +kernel
theorem dX6_canRun_71 : decode cX6_canRun 71 = .ok (.iconst 0, 1) := by decide +kernel
theorem dX6_canRun_72 : decode cX6_canRun 72 = .ok (.ireturn, 1) := by decide +kernel
theorem dX6_fits_0 : decode cX6_fits 0 = .ok (.aload_n 0, 1) := by decide +kernel
theorem dX6_fits_1 : decode cX6_fits 1 = .ok (.aload_n 0, 1) := by decide +kernel
theorem dX6_fits_2 : decode cX6_fits 2 = .ok (.iload_n 1, 1) := by decide +kernel
theorem dX6_fits_3 : decode cX6_fits 3 = .ok (.invokevirtual 131, 3) := by decide +kernel
theorem dX6_fits_6 : decode cX6_fits 6 = .ok (.ifCond .eq 15, 3) := by decide +kernel
theorem dX6_fits_9 : decode cX6_fits 9 = .ok (.aload_n 0, 1) := by decide +kernel
theorem dX6_fits_10 : decode cX6_fits 10 = .ok (.iload_n 2, 1) := by decide +kernel
theorem dX6_fits_11 : decode cX6_fits 11 = .ok (.invokevirtual 106, 3) := by decide +kernel
theorem dX6_fits_14 : decode cX6_fits 14 = .ok (.ifCond .eq 7, 3) := by decide +kernel
theorem dX6_fits_17 : decode cX6_fits 17 = .ok (.iconst 1, 1) := by decide +kernel
theorem dX6_fits_18 : decode cX6_fits 18 = .ok (.goto 4, 3) := by decide +kernel
theorem dX6_fits_21 : decode cX6_fits 21 = .ok (.iconst 0, 1) := by decide +kernel
theorem dX6_fits_22 : decode cX6_fits 22 = .ok (.invokevirtual 117, 3) := by decide +kernel
theorem dX6_fits_25 : decode cX6_fits 25 = .ok (.ifCond .eq 16, 3) := by decide +kernel
theorem dX6_fits_28 : decode cX6_fits 28 = .ok (.aload_n 0, 1) := by decide +kernel
theorem dX6_fits_29 : decode cX6_fits 29 = .ok (.iload_n 1, 1) := by decide +kernel
theorem dX6_fits_30 : decode cX6_fits 30 = .ok (.iload_n 2, 1) := by decide +kernel
theorem dX6_fits_31 : decode cX6_fits 31 = .ok (.invokevirtual 134, 3) := by decide +kernel
theorem dX6_fits_34 : decode cX6_fits 34 = .ok (.ifCond .eq 7, 3) := by decide +kernel
theorem dX6_fits_37 : decode cX6_fits 37 = .ok (.iconst 1, 1) := by decide +kernel
theorem dX6_fits_38 : decode cX6_fits 38 = .ok (.goto 4, 3) := by decide +kernel
theorem dX6_fits_41 : decode cX6_fits 41 = .ok (.iconst 0, 1) := by decide +kernel
theorem dX6_fits_42 : decode cX6_fits 42 = .ok (.ireturn, 1) := by decide +kernel
theorem dX6_takes_0 : decode cX6_takes 0 = .ok (.aload_n 0, 1) := by decide +kernel
theorem dX6_takes_1 : decode cX6_takes 1 = .ok (.getfield 47, 3) := by decide +kernel
theorem dX6_takes_4 : decode cX6_takes 4 = .ok (.iload_n 1, 1) := by decide +kernel
theorem dX6_takes_5 : decode cX6_takes 5 = .ok (.iaload, 1) := by decide +kernel
theorem dX6_takes_6 : decode cX6_takes 6 = .ok (.aload_n 0, 1) := by decide +kernel
theorem dX6_takes_7 : decode cX6_takes 7 = .ok (.getfield 44, 3) := by decide +kernel
theorem dX6_takes_10 : decode cX6_takes 10 = .ok (.iload_n 1, 1) := by decide +kernel
theorem dX6_takes_11 : decode cX6_takes 11 = .ok (.iaload, 1) := by decide +kernel
theorem dX6_takes_12 : decode cX6_takes 12 = .ok (.if_icmp .ge 27, 3) := by decide +kernel
theorem dX6_takes_15 : decode cX6_takes 15 = .ok (.aload_n 0, 1) := by decide +kernel
theorem dX6_takes_16 : decode cX6_takes 16 = .ok (.getfield 50, 3) := by decide +kernel
theorem dX6_takes_19 : decode cX6_takes 19 = .ok (.iload_n 1, 1) := by decide +kernel
theorem dX6_takes_20 : decode cX6_takes 20 = .ok (.iaload, 1) := by decide +kernel
theorem dX6_takes_21 : decode cX6_takes 21 = .ok (.iconst (-1), 1) := by decide +kernel
theorem dX6_takes_22 : decode cX6_takes 22 = .ok (.if_icmp .eq 13, 3) := by decide +kernel
theorem dX6_takes_25 : decode cX6_takes 25 = .ok (.aload_n 0, 1) := by decide +kernel
theorem dX6_takes_26 : decode cX6_takes 26 = .ok (.getfield 50, 3) := by decide +kernel
theorem dX6_takes_29 : decode cX6_takes 29 = .ok (.iload_n 1, 1) := by decide +kernel
theorem dX6_takes_30 : decode cX6_takes 30 = .ok (.iaload, 1) := by decide +kernel
theorem dX6_takes_31 : decode cX6_takes 31 = .ok (.iload_n 2, 1) := by decide +kernel
theorem dX6_takes_32 : decode cX6_takes 32 = .ok (.if_icmp .ne 7, 3) := by decide +kernel
theorem dX6_takes_35 : decode cX6_takes 35 = .ok (.iconst 1, 1) := by decide +kernel
theorem dX6_takes_36 : decode cX6_takes 36 = .ok (.goto 4, 3) := by decide +kernel
theorem dX6_takes_39 : decode cX6_takes 39 = .ok (.iconst 0, 1) := by decide +kernel
theorem dX6_takes_40 : decode cX6_takes 40 = .ok (.ireturn, 1) := by decide +kernel
theorem dX6_fullest_0 : decode cX6_fullest 0 = .ok (.aload_n 0, 1) := by decide +kernel
theorem dX6_fullest_1 : decode cX6_fullest 1 = .ok (.getfield 7, 3) := by decide +kernel
theorem dX6_fullest_4 : decode cX6_fullest 4 = .ok (.iload_n 1, 1) := by decide +kernel
theorem dX6_fullest_5 : decode cX6_fullest 5 = .ok (.iaload, 1) := by decide +kernel
theorem dX6_fullest_6 : decode cX6_fullest 6 = .ok (.iconst 2, 1) := by decide +kernel
theorem dX6_fullest_7 : decode cX6_fullest 7 = .ok (.aload_n 0, 1) := by decide +kernel
theorem dX6_fullest_8 : decode cX6_fullest 8 = .ok (.getfield 31, 3) := by decide +kernel
theorem dX6_fullest_11 : decode cX6_fullest 11 = .ok (.imul, 1) := by decide +kernel
theorem dX6_fullest_12 : decode cX6_fullest 12 = .ok (.isub, 1) := by decide +kernel
theorem dX6_fullest_13 : decode cX6_fullest 13 = .ok (.istore_n 2, 1) := by decide +kernel
theorem dX6_fullest_14 : decode cX6_fullest 14 = .ok (.iconst 0, 1) := by decide +kernel
theorem dX6_fullest_15 : decode cX6_fullest 15 = .ok (.istore_n 3, 1) := by decide +kernel
theorem dX6_fullest_16 : decode cX6_fullest 16 = .ok (.iconst 0, 1) := by decide +kernel
theorem dX6_fullest_17 : decode cX6_fullest 17 = .ok (.istore 4, 2) := by decide +kernel
theorem dX6_fullest_19 : decode cX6_fullest 19 = .ok (.iload 4, 2) := by decide +kernel
theorem dX6_fullest_21 : decode cX6_fullest 21 = .ok (.iload_n 2, 1) := by decide +kernel
theorem dX6_fullest_22 : decode cX6_fullest 22 = .ok (.if_icmp .gt 145, 3) := by decide +kernel
theorem dX6_fullest_25 : decode cX6_fullest 25 = .ok (.aload_n 0, 1) := by decide +kernel
theorem dX6_fullest_26 : decode cX6_fullest 26 = .ok (.getfield 80, 3) := by decide +kernel
theorem dX6_fullest_29 : decode cX6_fullest 29 = .ok (.iload 4, 2) := by decide +kernel
theorem dX6_fullest_31 : decode cX6_fullest 31 = .ok (.iload 4, 2) := by decide +kernel
theorem dX6_fullest_33 : decode cX6_fullest 33 = .ok (.ifCond .ne 7, 3) := by decide +kernel
theorem dX6_fullest_36 : decode cX6_fullest 36 = .ok (.iconst 0, 1) := by decide +kernel
theorem dX6_fullest_37 : decode cX6_fullest 37 = .ok (.goto 6, 3) := by decide +kernel
theorem dX6_fullest_40 : decode cX6_fullest 40 = .ok (.sipush 1000, 3) := by decide +kernel
theorem dX6_fullest_43 : decode cX6_fullest 43 = .ok (.iastore, 1) := by decide +kernel
theorem dX6_fullest_44 : decode cX6_fullest 44 = .ok (.iconst 0, 1) := by decide +kernel
theorem dX6_fullest_45 : decode cX6_fullest 45 = .ok (.istore 5, 2) := by decide +kernel
theorem dX6_fullest_47 : decode cX6_fullest 47 = .ok (.iload 5, 2) := by decide +kernel
theorem dX6_fullest_49 : decode cX6_fullest 49 = .ok (.aload_n 0, 1) := by decide +kernel
theorem dX6_fullest_50 : decode cX6_fullest 50 = .ok (.getfield 121, 3) := by decide +kernel
theorem dX6_fullest_53 : decode cX6_fullest 53 = .ok (.if_icmp .ge 87, 3) := by decide +kernel
theorem dX6_fullest_56 : decode cX6_fullest 56 = .ok (.aload_n 0, 1) := by decide +kernel
theorem dX6_fullest_57 : decode cX6_fullest 57 = .ok (.iload 5, 2) := by decide +kernel
theorem dX6_fullest_59 : decode cX6_fullest 59 = .ok (.aload_n 0, 1) := by decide +kernel
theorem dX6_fullest_60 : decode cX6_fullest 60 = .ok (.getfield 19, 3) := by decide +kernel
theorem dX6_fullest_63 : decode cX6_fullest 63 = .ok (.iload_n 1, 1) := by decide +kernel
theorem dX6_fullest_64 : decode cX6_fullest 64 = .ok (.iaload, 1) := by decide +kernel
theorem dX6_fullest_65 : decode cX6_fullest 65 = .ok (.invokevirtual 138, 3) := by decide +kernel
theorem dX6_fullest_68 : decode cX6_fullest 68 = .ok (.ifCond .eq 66, 3) := by decide +kernel
theorem dX6_fullest_71 : decode cX6_fullest 71 = .ok (.aload_n 0, 1) := by decide +kernel
theorem dX6_fullest_72 : decode cX6_fullest 72 = .ok (.getfield 41, 3) := by decide +kernel
theorem dX6_fullest_75 : decode cX6_fullest 75 = .ok (.iload 5, 2) := by decide +kernel
theorem dX6_fullest_77 : decode cX6_fullest 77 = .ok (.iaload, 1) := by decide +kernel
theorem dX6_fullest_78 : decode cX6_fullest 78 = .ok (.iload 4, 2) := by decide +kernel
theorem dX6_fullest_80 : decode cX6_fullest 80 = .ok (.if_icmp .gt 54, 3) := by decide +kernel
theorem dX6_fullest_83 : decode cX6_fullest 83 = .ok (.aload_n 0, 1) := by decide +kernel
theorem dX6_fullest_84 : decode cX6_fullest 84 = .ok (.getfield 80, 3) := by decide +kernel
theorem dX6_fullest_87 : decode cX6_fullest 87 = .ok (.iload 4, 2) := by decide +kernel
theorem dX6_fullest_89 : decode cX6_fullest 89 = .ok (.aload_n 0, 1) := by decide +kernel
theorem dX6_fullest_90 : decode cX6_fullest 90 = .ok (.getfield 41, 3) := by decide +kernel
theorem dX6_fullest_93 : decode cX6_fullest 93 = .ok (.iload 5, 2) := by decide +kernel
theorem dX6_fullest_95 : decode cX6_fullest 95 = .ok (.iaload, 1) := by decide +kernel
theorem dX6_fullest_96 : decode cX6_fullest 96 = .ok (.isub, 1) := by decide +kernel
theorem dX6_fullest_97 : decode cX6_fullest 97 = .ok (.iaload, 1) := by decide +kernel
theorem dX6_fullest_98 : decode cX6_fullest 98 = .ok (.iconst 1, 1) := by decide +kernel
theorem dX6_fullest_99 : decode cX6_fullest 99 = .ok (.iadd, 1) := by decide +kernel
theorem dX6_fullest_100 : decode cX6_fullest 100 = .ok (.aload_n 0, 1) := by decide +kernel
theorem dX6_fullest_101 : decode cX6_fullest 101 = .ok (.getfield 80, 3) := by decide +kernel
theorem dX6_fullest_104 : decode cX6_fullest 104 = .ok (.iload 4, 2) := by decide +kernel
theorem dX6_fullest_106 : decode cX6_fullest 106 = .ok (.iaload, 1) := by decide +kernel
theorem dX6_fullest_107 : decode cX6_fullest 107 = .ok (.if_icmp .ge 27, 3) := by decide +kernel
theorem dX6_fullest_110 : decode cX6_fullest 110 = .ok (.aload_n 0, 1) := by decide +kernel
theorem dX6_fullest_111 : decode cX6_fullest 111 = .ok (.getfield 80, 3) := by decide +kernel
theorem dX6_fullest_114 : decode cX6_fullest 114 = .ok (.iload 4, 2) := by decide +kernel
theorem dX6_fullest_116 : decode cX6_fullest 116 = .ok (.aload_n 0, 1) := by decide +kernel
theorem dX6_fullest_117 : decode cX6_fullest 117 = .ok (.getfield 80, 3) := by decide +kernel
theorem dX6_fullest_120 : decode cX6_fullest 120 = .ok (.iload 4, 2) := by decide +kernel
theorem dX6_fullest_122 : decode cX6_fullest 122 = .ok (.aload_n 0, 1) := by decide +kernel
theorem dX6_fullest_123 : decode cX6_fullest 123 = .ok (.getfield 41, 3) := by decide +kernel
theorem dX6_fullest_126 : decode cX6_fullest 126 = .ok (.iload 5, 2) := by decide +kernel
theorem dX6_fullest_128 : decode cX6_fullest 128 = .ok (.iaload, 1) := by decide +kernel
theorem dX6_fullest_129 : decode cX6_fullest 129 = .ok (.isub, 1) := by decide +kernel
theorem dX6_fullest_130 : decode cX6_fullest 130 = .ok (.iaload, 1) := by decide +kernel
theorem dX6_fullest_131 : decode cX6_fullest 131 = .ok (.iconst 1, 1) := by decide +kernel
theorem dX6_fullest_132 : decode cX6_fullest 132 = .ok (.iadd, 1) := by decide +kernel
theorem dX6_fullest_133 : decode cX6_fullest 133 = .ok (.iastore, 1) := by decide +kernel
theorem dX6_fullest_134 : decode cX6_fullest 134 = .ok (.iinc 5 1, 3) := by decide +kernel
theorem dX6_fullest_137 : decode cX6_fullest 137 = .ok (.goto (-90), 3) := by decide +kernel
theorem dX6_fullest_140 : decode cX6_fullest 140 = .ok (.aload_n 0, 1) := by decide +kernel
theorem dX6_fullest_141 : decode cX6_fullest 141 = .ok (.getfield 80, 3) := by decide +kernel
theorem dX6_fullest_144 : decode cX6_fullest 144 = .ok (.iload 4, 2) := by decide +kernel
theorem dX6_fullest_146 : decode cX6_fullest 146 = .ok (.iaload, 1) := by decide +kernel
theorem dX6_fullest_147 : decode cX6_fullest 147 = .ok (.aload_n 0, 1) := by decide +kernel
theorem dX6_fullest_148 : decode cX6_fullest 148 = .ok (.getfield 38, 3) := by decide +kernel
theorem dX6_fullest_151 : decode cX6_fullest 151 = .ok (.if_icmp .ge 8, 3) := by decide +kernel
theorem dX6_fullest_154 : decode cX6_fullest 154 = .ok (.iload 4, 2) := by decide +kernel
theorem dX6_fullest_156 : decode cX6_fullest 156 = .ok (.goto 4, 3) := by decide +kernel
theorem dX6_fullest_159 : decode cX6_fullest 159 = .ok (.iload_n 3, 1) := by decide +kernel
theorem dX6_fullest_160 : decode cX6_fullest 160 = .ok (.istore_n 3, 1) := by decide +kernel
theorem dX6_fullest_161 : decode cX6_fullest 161 = .ok (.iinc 4 1, 3) := by decide +kernel
theorem dX6_fullest_164 : decode cX6_fullest 164 = .ok (.goto (-145), 3) := by decide +kernel
theorem dX6_fullest_167 : decode cX6_fullest 167 = .ok (.iload_n 3, 1) := by decide +kernel
theorem dX6_fullest_168 : decode cX6_fullest 168 = .ok (.ireturn, 1) := by decide +kernel
theorem dX6_fill_0 : decode cX6_fill 0 = .ok (.aload_n 0, 1) := by decide +kernel
theorem dX6_fill_1 : decode cX6_fill 1 = .ok (.aload_n 0, 1) := by decide +kernel
theorem dX6_fill_2 : decode cX6_fill 2 = .ok (.iload_n 1, 1) := by decide +kernel
theorem dX6_fill_3 : decode cX6_fill 3 = .ok (.invokevirtual 106, 3) := by decide +kernel
theorem dX6_fill_6 : decode cX6_fill 6 = .ok (.invokevirtual 117, 3) := by decide +kernel
theorem dX6_fill_9 : decode cX6_fill 9 = .ok (.ifCond .ne 5, 3) := by decide +kernel
theorem dX6_fill_12 : decode cX6_fill 12 = .ok (.iconst 0, 1) := by decide +kernel
theorem dX6_fill_13 : decode cX6_fill 13 = .ok (.ireturn, 1) := by decide +kernel
theorem dX6_fill_14 : decode cX6_fill 14 = .ok (.aload_n 0, 1) := by decide +kernel
theorem dX6_fill_15 : decode cX6_fill 15 = .ok (.iload_n 1, 1) := by decide +kernel
theorem dX6_fill_16 : decode cX6_fill 16 = .ok (.invokevirtual 141, 3) := by decide +kernel
theorem dX6_fill_19 : decode cX6_fill 19 = .ok (.istore_n 2, 1) := by decide +kernel
theorem dX6_fill_20 : decode cX6_fill 20 = .ok (.iload_n 2, 1) := by decide +kernel
theorem dX6_fill_21 : decode cX6_fill 21 = .ok (.istore_n 3, 1) := by decide +kernel
theorem dX6_fill_22 : decode cX6_fill 22 = .ok (.aload_n 0, 1) := by decide +kernel
theorem dX6_fill_23 : decode cX6_fill 23 = .ok (.getfield 56, 3) := by decide +kernel
theorem dX6_fill_26 : decode cX6_fill 26 = .ok (.bipush 10, 2) := by decide +kernel
theorem dX6_fill_28 : decode cX6_fill 28 = .ok (.iconst 0, 1) := by decide +kernel
theorem dX6_fill_29 : decode cX6_fill 29 = .ok (.iastore, 1) := by decide +kernel
theorem dX6_fill_30 : decode cX6_fill 30 = .ok (.iload_n 3, 1) := by decide +kernel
theorem dX6_fill_31 : decode cX6_fill 31 = .ok (.ifCond .le 127, 3) := by decide +kernel
theorem dX6_fill_34 : decode cX6_fill 34 = .ok (.iconst 0, 1) := by decide +kernel
theorem dX6_fill_35 : decode cX6_fill 35 = .ok (.istore 4, 2) := by decide +kernel
theorem dX6_fill_37 : decode cX6_fill 37 = .ok (.iconst 0, 1) := by decide +kernel
theorem dX6_fill_38 : decode cX6_fill 38 = .ok (.istore 5, 2) := by decide +kernel
theorem dX6_fill_40 : decode cX6_fill 40 = .ok (.iload 5, 2) := by decide +kernel
theorem dX6_fill_42 : decode cX6_fill 42 = .ok (.aload_n 0, 1) := by decide +kernel
theorem dX6_fill_43 : decode cX6_fill 43 = .ok (.getfield 121, 3) := by decide +kernel
theorem dX6_fill_46 : decode cX6_fill 46 = .ok (.if_icmp .ge 98, 3) := by decide +kernel
theorem dX6_fill_49 : decode cX6_fill 49 = .ok (.aload_n 0, 1) := by decide +kernel
theorem dX6_fill_50 : decode cX6_fill 50 = .ok (.iload 5, 2) := by decide +kernel
theorem dX6_fill_52 : decode cX6_fill 52 = .ok (.aload_n 0, 1) := by decide +kernel
theorem dX6_fill_53 : decode cX6_fill 53 = .ok (.getfield 19, 3) := by decide +kernel
theorem dX6_fill_56 : decode cX6_fill 56 = .ok (.iload_n 1, 1) := by decide +kernel
theorem dX6_fill_57 : decode cX6_fill 57 = .ok (.iaload, 1) := by decide +kernel
theorem dX6_fill_58 : decode cX6_fill 58 = .ok (.invokevirtual 138, 3) := by decide +kernel
theorem dX6_fill_61 : decode cX6_fill 61 = .ok (.ifCond .eq 43, 3) := by decide +kernel
theorem dX6_fill_64 : decode cX6_fill 64 = .ok (.aload_n 0, 1) := by decide +kernel
theorem dX6_fill_65 : decode cX6_fill 65 = .ok (.getfield 41, 3) := by decide +kernel
theorem dX6_fill_68 : decode cX6_fill 68 = .ok (.iload 5, 2) := by decide +kernel
theorem dX6_fill_70 : decode cX6_fill 70 = .ok (.iaload, 1) := by decide +kernel
theorem dX6_fill_71 : decode cX6_fill 71 = .ok (.iload_n 3, 1) := by decide +kernel
theorem dX6_fill_72 : decode cX6_fill 72 = .ok (.if_icmp .gt 32, 3) := by decide +kernel
theorem dX6_fill_75 : decode cX6_fill 75 = .ok (.aload_n 0, 1) := by decide +kernel
theorem dX6_fill_76 : decode cX6_fill 76 = .ok (.getfield 80, 3) := by decide +kernel
theorem dX6_fill_79 : decode cX6_fill 79 = .ok (.iload_n 3, 1) := by decide +kernel
theorem dX6_fill_80 : decode cX6_fill 80 = .ok (.aload_n 0, 1) := by decide +kernel
theorem dX6_fill_81 : decode cX6_fill 81 = .ok (.getfield 41, 3) := by decide +kernel
theorem dX6_fill_84 : decode cX6_fill 84 = .ok (.iload 5, 2) := by decide +kernel
theorem dX6_fill_86 : decode cX6_fill 86 = .ok (.iaload, 1) := by decide +kernel
theorem dX6_fill_87 : decode cX6_fill 87 = .ok (.isub, 1) := by decide +kernel
theorem dX6_fill_88 : decode cX6_fill 88 = .ok (.iaload, 1) := by decide +kernel
theorem dX6_fill_89 : decode cX6_fill 89 = .ok (.iconst 1, 1) := by decide +kernel
theorem dX6_fill_90 : decode cX6_fill 90 = .ok (.iadd, 1) := by decide +kernel
theorem dX6_fill_91 : decode cX6_fill 91 = .ok (.aload_n 0, 1) := by decide +kernel
theorem dX6_fill_92 : decode cX6_fill 92 = .ok (.getfield 80, 3) := by decide +kernel
theorem dX6_fill_95 : decode cX6_fill 95 = .ok (.iload_n 3, 1) := by decide +kernel
theorem dX6_fill_96 : decode cX6_fill 96 = .ok (.iaload, 1) := by decide +kernel
theorem dX6_fill_97 : decode cX6_fill 97 = .ok (.if_icmp .ne 7, 3) := by decide +kernel
theorem dX6_fill_100 : decode cX6_fill 100 = .ok (.iconst 1, 1) := by decide +kernel
theorem dX6_fill_101 : decode cX6_fill 101 = .ok (.goto 4, 3) := by decide +kernel
theorem dX6_fill_104 : decode cX6_fill 104 = .ok (.iconst 0, 1) := by decide +kernel
theorem dX6_fill_105 : decode cX6_fill 105 = .ok (.istore 6, 2) := by decide +kernel
theorem dX6_fill_107 : decode cX6_fill 107 = .ok (.iload 6, 2) := by decide +kernel
theorem dX6_fill_109 : decode cX6_fill 109 = .ok (.ifCond .eq 25, 3) := by decide +kernel
theorem dX6_fill_112 : decode cX6_fill 112 = .ok (.aload_n 0, 1) := by decide +kernel
theorem dX6_fill_113 : decode cX6_fill 113 = .ok (.getfield 41, 3) := by decide +kernel
theorem dX6_fill_116 : decode cX6_fill 116 = .ok (.iload 5, 2) := by decide +kernel
theorem dX6_fill_118 : decode cX6_fill 118 = .ok (.iaload, 1) := by decide +kernel
theorem dX6_fill_119 : decode cX6_fill 119 = .ok (.iload 4, 2) := by decide +kernel
theorem dX6_fill_121 : decode cX6_fill 121 = .ok (.if_icmp .le 13, 3) := by decide +kernel
theorem dX6_fill_124 : decode cX6_fill 124 = .ok (.aload_n 0, 1) := by decide +kernel
theorem dX6_fill_125 : decode cX6_fill 125 = .ok (.getfield 41, 3) := by decide +kernel
theorem dX6_fill_128 : decode cX6_fill 128 = .ok (.iload 5, 2) := by decide +kernel
theorem dX6_fill_130 : decode cX6_fill 130 = .ok (.iaload, 1) := by decide +kernel
theorem dX6_fill_131 : decode cX6_fill 131 = .ok (.goto 5, 3) := by decide +kernel
theorem dX6_fill_134 : decode cX6_fill 134 = .ok (.iload 4, 2) := by decide +kernel
theorem dX6_fill_136 : decode cX6_fill 136 = .ok (.istore 4, 2) := by decide +kernel
theorem dX6_fill_138 : decode cX6_fill 138 = .ok (.iinc 5 1, 3) := by decide +kernel
theorem dX6_fill_141 : decode cX6_fill 141 = .ok (.goto (-101), 3) := by decide +kernel
theorem dX6_fill_144 : decode cX6_fill 144 = .ok (.aload_n 0, 1) := by decide +kernel
theorem dX6_fill_145 : decode cX6_fill 145 = .ok (.iload 4, 2) := by decide +kernel
theorem dX6_fill_147 : decode cX6_fill 147 = .ok (.invokevirtual 124, 3) := by decide +kernel
theorem dX6_fill_150 : decode cX6_fill 150 = .ok (.iload_n 3, 1) := by decide +kernel
theorem dX6_fill_151 : decode cX6_fill 151 = .ok (.iload 4, 2) := by decide +kernel
theorem dX6_fill_153 : decode cX6_fill 153 = .ok (.isub, 1) := by decide +kernel
theorem dX6_fill_154 : decode cX6_fill 154 = .ok (.istore_n 3, 1) := by decide +kernel
theorem dX6_fill_155 : decode cX6_fill 155 = .ok (.goto (-125), 3) := by decide +kernel
theorem dX6_fill_158 : decode cX6_fill 158 = .ok (.iload_n 2, 1) := by decide +kernel
theorem dX6_fill_159 : decode cX6_fill 159 = .ok (.ireturn, 1) := by decide +kernel
theorem dX6_fullestByTrying_0 : decode cX6_fullestByTrying 0 = .ok (.aload_n 0, 1) := by decide +kernel
theorem dX6_fullestByTrying_1 : decode cX6_fullestByTrying 1 = .ok (.iload_n 1, 1) := by decide +kernel
theorem dX6_fullestByTrying_2 : decode cX6_fullestByTrying 2 = .ok (.invokevirtual 106, 3) := by decide +kernel
theorem dX6_fullestByTrying_5 : decode cX6_fullestByTrying 5 = .ok (.istore_n 2, 1) := by decide +kernel
theorem dX6_fullestByTrying_6 : decode cX6_fullestByTrying 6 = .ok (.aload_n 0, 1) := by decide +kernel
theorem dX6_fullestByTrying_7 : decode cX6_fullestByTrying 7 = .ok (.iload_n 2, 1) := by decide +kernel
theorem dX6_fullestByTrying_8 : decode cX6_fullestByTrying 8 = .ok (.aload_n 0, 1) := by decide +kernel
theorem dX6_fullestByTrying_9 : decode cX6_fullestByTrying 9 = .ok (.getfield 38, 3) := by decide +kernel
theorem dX6_fullestByTrying_12 : decode cX6_fullestByTrying 12 = .ok (.bipush 8, 2) := by decide +kernel
theorem dX6_fullestByTrying_14 : decode cX6_fullestByTrying 14 = .ok (.if_icmp .gt 7, 3) := by decide +kernel
theorem dX6_fullestByTrying_17 : decode cX6_fullestByTrying 17 = .ok (.iconst 1, 1) := by decide +kernel
theorem dX6_fullestByTrying_18 : decode cX6_fullestByTrying 18 = .ok (.goto 4, 3) := by decide +kernel
theorem dX6_fullestByTrying_21 : decode cX6_fullestByTrying 21 = .ok (.iconst 0, 1) := by decide +kernel
theorem dX6_fullestByTrying_22 : decode cX6_fullestByTrying 22 = .ok (.invokevirtual 102, 3) := by decide +kernel
theorem dX6_fullestByTrying_25 : decode cX6_fullestByTrying 25 = .ok (.ifCond .eq 11, 3) := by decide +kernel
theorem dX6_fullestByTrying_28 : decode cX6_fullestByTrying 28 = .ok (.aload_n 0, 1) := by decide +kernel
theorem dX6_fullestByTrying_29 : decode cX6_fullestByTrying 29 = .ok (.iload_n 1, 1) := by decide +kernel
theorem dX6_fullestByTrying_30 : decode cX6_fullestByTrying 30 = .ok (.invokevirtual 141, 3) := by decide +kernel
theorem dX6_fullestByTrying_33 : decode cX6_fullestByTrying 33 = .ok (.goto 4, 3) := by decide +kernel
theorem dX6_fullestByTrying_36 : decode cX6_fullestByTrying 36 = .ok (.iconst 0, 1) := by decide +kernel
theorem dX6_fullestByTrying_37 : decode cX6_fullestByTrying 37 = .ok (.ireturn, 1) := by decide +kernel
theorem dX6_isPosition_0 : decode cX6_isPosition 0 = .ok (.iconst 0, 1) := by decide +kernel
theorem dX6_isPosition_1 : decode cX6_isPosition 1 = .ok (.istore_n 3, 1) := by decide +kernel
theorem dX6_isPosition_2 : decode cX6_isPosition 2 = .ok (.iload_n 2, 1) := by decide +kernel
theorem dX6_isPosition_3 : decode cX6_isPosition 3 = .ok (.ifCond .ne 7, 3) := by decide +kernel
theorem dX6_isPosition_6 : decode cX6_isPosition 6 = .ok (.iconst 1, 1) := by decide +kernel
theorem dX6_isPosition_7 : decode cX6_isPosition 7 = .ok (.goto 4, 3) := by decide +kernel
theorem dX6_isPosition_10 : decode cX6_isPosition 10 = .ok (.iconst 0, 1) := by decide +kernel
theorem dX6_isPosition_11 : decode cX6_isPosition 11 = .ok (.istore 4, 2) := by decide +kernel
theorem dX6_isPosition_13 : decode cX6_isPosition 13 = .ok (.iconst 0, 1) := by decide +kernel
theorem dX6_isPosition_14 : decode cX6_isPosition 14 = .ok (.istore 5, 2) := by decide +kernel
theorem dX6_isPosition_16 : decode cX6_isPosition 16 = .ok (.iload 5, 2) := by decide +kernel
theorem dX6_isPosition_18 : decode cX6_isPosition 18 = .ok (.aload_n 0, 1) := by decide +kernel
theorem dX6_isPosition_19 : decode cX6_isPosition 19 = .ok (.getfield 56, 3) := by decide +kernel
theorem dX6_isPosition_22 : decode cX6_isPosition 22 = .ok (.iload_n 1, 1) := by decide +kernel
theorem dX6_isPosition_23 : decode cX6_isPosition 23 = .ok (.iaload, 1) := by decide +kernel
theorem dX6_isPosition_24 : decode cX6_isPosition 24 = .ok (.if_icmp .ge 41, 3) := by decide +kernel
theorem dX6_isPosition_27 : decode cX6_isPosition 27 = .ok (.iload_n 3, 1) := by decide +kernel
theorem dX6_isPosition_28 : decode cX6_isPosition 28 = .ok (.aload_n 0, 1) := by decide +kernel
theorem dX6_isPosition_29 : decode cX6_isPosition 29 = .ok (.getfield 53, 3) := by decide +kernel
theorem dX6_isPosition_32 : decode cX6_isPosition 32 = .ok (.bipush 15, 2) := by decide +kernel
theorem dX6_isPosition_34 : decode cX6_isPosition 34 = .ok (.iload_n 1, 1) := by decide +kernel
theorem dX6_isPosition_35 : decode cX6_isPosition 35 = .ok (.imul, 1) := by decide +kernel
theorem dX6_isPosition_36 : decode cX6_isPosition 36 = .ok (.iload 5, 2) := by decide +kernel
theorem dX6_isPosition_38 : decode cX6_isPosition 38 = .ok (.iadd, 1) := by decide +kernel
theorem dX6_isPosition_39 : decode cX6_isPosition 39 = .ok (.iaload, 1) := by decide +kernel
theorem dX6_isPosition_40 : decode cX6_isPosition 40 = .ok (.iadd, 1) := by decide +kernel
theorem dX6_isPosition_41 : decode cX6_isPosition 41 = .ok (.istore_n 3, 1) := by decide +kernel
theorem dX6_isPosition_42 : decode cX6_isPosition 42 = .ok (.iload 4, 2) := by decide +kernel
theorem dX6_isPosition_44 : decode cX6_isPosition 44 = .ok (.ifCond .ne 8, 3) := by decide +kernel
theorem dX6_isPosition_47 : decode cX6_isPosition 47 = .ok (.iload_n 3, 1) := by decide +kernel
theorem dX6_isPosition_48 : decode cX6_isPosition 48 = .ok (.iload_n 2, 1) := by decide +kernel
theorem dX6_isPosition_49 : decode cX6_isPosition 49 = .ok (.if_icmp .ne 7, 3) := by decide +kernel
theorem dX6_isPosition_52 : decode cX6_isPosition 52 = .ok (.iconst 1, 1) := by decide +kernel
theorem dX6_isPosition_53 : decode cX6_isPosition 53 = .ok (.goto 4, 3) := by decide +kernel
theorem dX6_isPosition_56 : decode cX6_isPosition 56 = .ok (.iconst 0, 1) := by decide +kernel
theorem dX6_isPosition_57 : decode cX6_isPosition 57 = .ok (.istore 4, 2) := by decide +kernel
theorem dX6_isPosition_59 : decode cX6_isPosition 59 = .ok (.iinc 5 1, 3) := by decide +kernel
theorem dX6_isPosition_62 : decode cX6_isPosition 62 = .ok (.goto (-46), 3) := by decide +kernel
theorem dX6_isPosition_65 : decode cX6_isPosition 65 = .ok (.iload 4, 2) := by decide +kernel
theorem dX6_isPosition_67 : decode cX6_isPosition 67 = .ok (.ireturn, 1) := by decide +kernel
theorem dX6_movesFrom_0 : decode cX6_movesFrom 0 = .ok (.iload_n 1, 1) := by decide +kernel
theorem dX6_movesFrom_1 : decode cX6_movesFrom 1 = .ok (.iconst (-1), 1) := by decide +kernel
theorem dX6_movesFrom_2 : decode cX6_movesFrom 2 = .ok (.if_icmp .ne 7, 3) := by decide +kernel
theorem dX6_movesFrom_5 : decode cX6_movesFrom 5 = .ok (.iconst 1, 1) := by decide +kernel
theorem dX6_movesFrom_6 : decode cX6_movesFrom 6 = .ok (.goto 4, 3) := by decide +kernel
theorem dX6_movesFrom_9 : decode cX6_movesFrom 9 = .ok (.iconst 0, 1) := by decide +kernel
theorem dX6_movesFrom_10 : decode cX6_movesFrom 10 = .ok (.istore_n 3, 1) := by decide +kernel
theorem dX6_movesFrom_11 : decode cX6_movesFrom 11 = .ok (.iconst 0, 1) := by decide +kernel
theorem dX6_movesFrom_12 : decode cX6_movesFrom 12 = .ok (.istore 4, 2) := by decide +kernel
theorem dX6_movesFrom_14 : decode cX6_movesFrom 14 = .ok (.iconst 0, 1) := by decide +kernel
theorem dX6_movesFrom_15 : decode cX6_movesFrom 15 = .ok (.istore 5, 2) := by decide +kernel
theorem dX6_movesFrom_17 : decode cX6_movesFrom 17 = .ok (.iload 5, 2) := by decide +kernel
theorem dX6_movesFrom_19 : decode cX6_movesFrom 19 = .ok (.aload_n 0, 1) := by decide +kernel
theorem dX6_movesFrom_20 : decode cX6_movesFrom 20 = .ok (.getfield 56, 3) := by decide +kernel
theorem dX6_movesFrom_23 : decode cX6_movesFrom 23 = .ok (.iload_n 2, 1) := by decide +kernel
theorem dX6_movesFrom_24 : decode cX6_movesFrom 24 = .ok (.iaload, 1) := by decide +kernel
theorem dX6_movesFrom_25 : decode cX6_movesFrom 25 = .ok (.if_icmp .ge 49, 3) := by decide +kernel
theorem dX6_movesFrom_28 : decode cX6_movesFrom 28 = .ok (.iload 4, 2) := by decide +kernel
theorem dX6_movesFrom_30 : decode cX6_movesFrom 30 = .ok (.aload_n 0, 1) := by decide +kernel
theorem dX6_movesFrom_31 : decode cX6_movesFrom 31 = .ok (.getfield 53, 3) := by decide +kernel
theorem dX6_movesFrom_34 : decode cX6_movesFrom 34 = .ok (.bipush 15, 2) := by decide +kernel
theorem dX6_movesFrom_36 : decode cX6_movesFrom 36 = .ok (.iload_n 2, 1) := by decide +kernel
theorem dX6_movesFrom_37 : decode cX6_movesFrom 37 = .ok (.imul, 1) := by decide +kernel
theorem dX6_movesFrom_38 : decode cX6_movesFrom 38 = .ok (.iload 5, 2) := by decide +kernel
theorem dX6_movesFrom_40 : decode cX6_movesFrom 40 = .ok (.iadd, 1) := by decide +kernel
theorem dX6_movesFrom_41 : decode cX6_movesFrom 41 = .ok (.iaload, 1) := by decide +kernel
theorem dX6_movesFrom_42 : decode cX6_movesFrom 42 = .ok (.iadd, 1) := by decide +kernel
theorem dX6_movesFrom_43 : decode cX6_movesFrom 43 = .ok (.istore 4, 2) := by decide +kernel
theorem dX6_movesFrom_45 : decode cX6_movesFrom 45 = .ok (.iload_n 3, 1) := by decide +kernel
theorem dX6_movesFrom_46 : decode cX6_movesFrom 46 = .ok (.iload_n 1, 1) := by decide +kernel
theorem dX6_movesFrom_47 : decode cX6_movesFrom 47 = .ok (.iconst (-1), 1) := by decide +kernel
theorem dX6_movesFrom_48 : decode cX6_movesFrom 48 = .ok (.if_icmp .eq 13, 3) := by decide +kernel
theorem dX6_movesFrom_51 : decode cX6_movesFrom 51 = .ok (.aload_n 0, 1) := by decide +kernel
theorem dX6_movesFrom_52 : decode cX6_movesFrom 52 = .ok (.iload_n 1, 1) := by decide +kernel
theorem dX6_movesFrom_53 : decode cX6_movesFrom 53 = .ok (.iload 4, 2) := by decide +kernel
theorem dX6_movesFrom_55 : decode cX6_movesFrom 55 = .ok (.invokevirtual 144, 3) := by decide +kernel
theorem dX6_movesFrom_58 : decode cX6_movesFrom 58 = .ok (.ifCond .ne 7, 3) := by decide +kernel
theorem dX6_movesFrom_61 : decode cX6_movesFrom 61 = .ok (.iconst 1, 1) := by decide +kernel
theorem dX6_movesFrom_62 : decode cX6_movesFrom 62 = .ok (.goto 4, 3) := by decide +kernel
theorem dX6_movesFrom_65 : decode cX6_movesFrom 65 = .ok (.iconst 0, 1) := by decide +kernel
theorem dX6_movesFrom_66 : decode cX6_movesFrom 66 = .ok (.iadd, 1) := by decide +kernel
theorem dX6_movesFrom_67 : decode cX6_movesFrom 67 = .ok (.istore_n 3, 1) := by decide +kernel
theorem dX6_movesFrom_68 : decode cX6_movesFrom 68 = .ok (.iinc 5 1, 3) := by decide +kernel
theorem dX6_movesFrom_71 : decode cX6_movesFrom 71 = .ok (.goto (-54), 3) := by decide +kernel
theorem dX6_movesFrom_74 : decode cX6_movesFrom 74 = .ok (.iload_n 3, 1) := by decide +kernel
theorem dX6_movesFrom_75 : decode cX6_movesFrom 75 = .ok (.ireturn, 1) := by decide +kernel
theorem dX6_runs_0 : decode cX6_runs 0 = .ok (.aload_n 0, 1) := by decide +kernel
theorem dX6_runs_1 : decode cX6_runs 1 = .ok (.dup, 1) := by decide +kernel
theorem dX6_runs_2 : decode cX6_runs 2 = .ok (.getfield 147, 3) := by decide +kernel
theorem dX6_runs_5 : decode cX6_runs 5 = .ok (.aload_n 0, 1) := by decide +kernel
theorem dX6_runs_6 : decode cX6_runs 6 = .ok (.aload_n 0, 1) := by decide +kernel
theorem dX6_runs_7 : decode cX6_runs 7 = .ok (.getfield 71, 3) := by decide +kernel
theorem dX6_runs_10 : decode cX6_runs 10 = .ok (.iload_n 2, 1) := by decide +kernel
theorem dX6_runs_11 : decode cX6_runs 11 = .ok (.invokevirtual 150, 3) := by decide +kernel
theorem dX6_runs_14 : decode cX6_runs 14 = .ok (.iadd, 1) := by decide +kernel
theorem dX6_runs_15 : decode cX6_runs 15 = .ok (.putfield 147, 3) := by decide +kernel
theorem dX6_runs_18 : decode cX6_runs 18 = .ok (.aload_n 0, 1) := by decide +kernel
theorem dX6_runs_19 : decode cX6_runs 19 = .ok (.iload_n 2, 1) := by decide +kernel
theorem dX6_runs_20 : decode cX6_runs 20 = .ok (.putfield 71, 3) := by decide +kernel
theorem dX6_runs_23 : decode cX6_runs 23 = .ok (.aload_n 0, 1) := by decide +kernel
theorem dX6_runs_24 : decode cX6_runs 24 = .ok (.getfield 59, 3) := by decide +kernel
theorem dX6_runs_27 : decode cX6_runs 27 = .ok (.iload_n 1, 1) := by decide +kernel
theorem dX6_runs_28 : decode cX6_runs 28 = .ok (.iload_n 2, 1) := by decide +kernel
theorem dX6_runs_29 : decode cX6_runs 29 = .ok (.iastore, 1) := by decide +kernel
theorem dX6_runs_30 : decode cX6_runs 30 = .ok (.aload_n 0, 1) := by decide +kernel
theorem dX6_runs_31 : decode cX6_runs 31 = .ok (.getfield 35, 3) := by decide +kernel
theorem dX6_runs_34 : decode cX6_runs 34 = .ok (.aload_n 0, 1) := by decide +kernel
theorem dX6_runs_35 : decode cX6_runs 35 = .ok (.getfield 13, 3) := by decide +kernel
theorem dX6_runs_38 : decode cX6_runs 38 = .ok (.iload_n 1, 1) := by decide +kernel
theorem dX6_runs_39 : decode cX6_runs 39 = .ok (.iaload, 1) := by decide +kernel
theorem dX6_runs_40 : decode cX6_runs 40 = .ok (.if_icmp .ge 10, 3) := by decide +kernel
theorem dX6_runs_43 : decode cX6_runs 43 = .ok (.aload_n 0, 1) := by decide +kernel
theorem dX6_runs_44 : decode cX6_runs 44 = .ok (.getfield 35, 3) := by decide +kernel
theorem dX6_runs_47 : decode cX6_runs 47 = .ok (.goto 9, 3) := by decide +kernel
theorem dX6_runs_50 : decode cX6_runs 50 = .ok (.aload_n 0, 1) := by decide +kernel
theorem dX6_runs_51 : decode cX6_runs 51 = .ok (.getfield 13, 3) := by decide +kernel
theorem dX6_runs_54 : decode cX6_runs 54 = .ok (.iload_n 1, 1) := by decide +kernel
theorem dX6_runs_55 : decode cX6_runs 55 = .ok (.iaload, 1) := by decide +kernel
theorem dX6_runs_56 : decode cX6_runs 56 = .ok (.istore_n 3, 1) := by decide +kernel
theorem dX6_runs_57 : decode cX6_runs 57 = .ok (.aload_n 0, 1) := by decide +kernel
theorem dX6_runs_58 : decode cX6_runs 58 = .ok (.getfield 13, 3) := by decide +kernel
theorem dX6_runs_61 : decode cX6_runs 61 = .ok (.iload_n 1, 1) := by decide +kernel
theorem dX6_runs_62 : decode cX6_runs 62 = .ok (.iaload, 1) := by decide +kernel
theorem dX6_runs_63 : decode cX6_runs 63 = .ok (.iload_n 3, 1) := by decide +kernel
theorem dX6_runs_64 : decode cX6_runs 64 = .ok (.isub, 1) := by decide +kernel
theorem dX6_runs_65 : decode cX6_runs 65 = .ok (.istore 4, 2) := by decide +kernel
theorem dX6_runs_67 : decode cX6_runs 67 = .ok (.iload 4, 2) := by decide +kernel
theorem dX6_runs_69 : decode cX6_runs 69 = .ok (.aload_n 0, 1) := by decide +kernel
theorem dX6_runs_70 : decode cX6_runs 70 = .ok (.iload_n 1, 1) := by decide +kernel
theorem dX6_runs_71 : decode cX6_runs 71 = .ok (.invokevirtual 113, 3) := by decide +kernel
theorem dX6_runs_74 : decode cX6_runs 74 = .ok (.imul, 1) := by decide +kernel
theorem dX6_runs_75 : decode cX6_runs 75 = .ok (.aload_n 0, 1) := by decide +kernel
theorem dX6_runs_76 : decode cX6_runs 76 = .ok (.getfield 16, 3) := by decide +kernel
theorem dX6_runs_79 : decode cX6_runs 79 = .ok (.iload_n 1, 1) := by decide +kernel
theorem dX6_runs_80 : decode cX6_runs 80 = .ok (.iaload, 1) := by decide +kernel
theorem dX6_runs_81 : decode cX6_runs 81 = .ok (.idiv, 1) := by decide +kernel
theorem dX6_runs_82 : decode cX6_runs 82 = .ok (.istore 5, 2) := by decide +kernel
theorem dX6_runs_84 : decode cX6_runs 84 = .ok (.iload 4, 2) := by decide +kernel
theorem dX6_runs_86 : decode cX6_runs 86 = .ok (.iload 5, 2) := by decide +kernel
theorem dX6_runs_88 : decode cX6_runs 88 = .ok (.isub, 1) := by decide +kernel
theorem dX6_runs_89 : decode cX6_runs 89 = .ok (.istore 6, 2) := by decide +kernel
theorem dX6_runs_91 : decode cX6_runs 91 = .ok (.iload 6, 2) := by decide +kernel
theorem dX6_runs_93 : decode cX6_runs 93 = .ok (.istore 7, 2) := by decide +kernel
theorem dX6_runs_95 : decode cX6_runs 95 = .ok (.iconst 0, 1) := by decide +kernel
theorem dX6_runs_96 : decode cX6_runs 96 = .ok (.istore 8, 2) := by decide +kernel
theorem dX6_runs_98 : decode cX6_runs 98 = .ok (.iconst 0, 1) := by decide +kernel
theorem dX6_runs_99 : decode cX6_runs 99 = .ok (.istore 9, 2) := by decide +kernel
theorem dX6_runs_101 : decode cX6_runs 101 = .ok (.iload 9, 2) := by decide +kernel
theorem dX6_runs_103 : decode cX6_runs 103 = .ok (.aload_n 0, 1) := by decide +kernel
theorem dX6_runs_104 : decode cX6_runs 104 = .ok (.getfield 56, 3) := by decide +kernel
theorem dX6_runs_107 : decode cX6_runs 107 = .ok (.iload_n 2, 1) := by decide +kernel
theorem dX6_runs_108 : decode cX6_runs 108 = .ok (.iaload, 1) := by decide +kernel
theorem dX6_runs_109 : decode cX6_runs 109 = .ok (.if_icmp .ge 164, 3) := by decide +kernel
theorem dX6_runs_112 : decode cX6_runs 112 = .ok (.aload_n 0, 1) := by decide +kernel
theorem dX6_runs_113 : decode cX6_runs 113 = .ok (.getfield 53, 3) := by decide +kernel
theorem dX6_runs_116 : decode cX6_runs 116 = .ok (.bipush 15, 2) := by decide +kernel
theorem dX6_runs_118 : decode cX6_runs 118 = .ok (.iload_n 2, 1) := by decide +kernel
theorem dX6_runs_119 : decode cX6_runs 119 = .ok (.imul, 1) := by decide +kernel
theorem dX6_runs_120 : decode cX6_runs 120 = .ok (.iload 9, 2) := by decide +kernel
theorem dX6_runs_122 : decode cX6_runs 122 = .ok (.iadd, 1) := by decide +kernel
theorem dX6_runs_123 : decode cX6_runs 123 = .ok (.iaload, 1) := by decide +kernel
theorem dX6_runs_124 : decode cX6_runs 124 = .ok (.istore 10, 2) := by decide +kernel
theorem dX6_runs_126 : decode cX6_runs 126 = .ok (.iload 6, 2) := by decide +kernel
theorem dX6_runs_128 : decode cX6_runs 128 = .ok (.iload 10, 2) := by decide +kernel
theorem dX6_runs_130 : decode cX6_runs 130 = .ok (.imul, 1) := by decide +kernel
theorem dX6_runs_131 : decode cX6_runs 131 = .ok (.aload_n 0, 1) := by decide +kernel
theorem dX6_runs_132 : decode cX6_runs 132 = .ok (.getfield 7, 3) := by decide +kernel
theorem dX6_runs_135 : decode cX6_runs 135 = .ok (.iload_n 1, 1) := by decide +kernel
theorem dX6_runs_136 : decode cX6_runs 136 = .ok (.iaload, 1) := by decide +kernel
theorem dX6_runs_137 : decode cX6_runs 137 = .ok (.idiv, 1) := by decide +kernel
theorem dX6_runs_138 : decode cX6_runs 138 = .ok (.istore 11, 2) := by decide +kernel
theorem dX6_runs_140 : decode cX6_runs 140 = .ok (.iconst (-1), 1) := by decide +kernel
theorem dX6_runs_141 : decode cX6_runs 141 = .ok (.istore 12, 2) := by decide +kernel
theorem dX6_runs_143 : decode cX6_runs 143 = .ok (.aload_n 0, 1) := by decide +kernel
theorem dX6_runs_144 : decode cX6_runs 144 = .ok (.getfield 121, 3) := by decide +kernel
theorem dX6_runs_147 : decode cX6_runs 147 = .ok (.iconst 1, 1) := by decide +kernel
theorem dX6_runs_148 : decode cX6_runs 148 = .ok (.isub, 1) := by decide +kernel
theorem dX6_runs_149 : decode cX6_runs 149 = .ok (.istore 13, 2) := by decide +kernel
theorem dX6_runs_151 : decode cX6_runs 151 = .ok (.iload 13, 2) := by decide +kernel
theorem dX6_runs_153 : decode cX6_runs 153 = .ok (.ifCond .lt 45, 3) := by decide +kernel
theorem dX6_runs_156 : decode cX6_runs 156 = .ok (.aload_n 0, 1) := by decide +kernel
theorem dX6_runs_157 : decode cX6_runs 157 = .ok (.getfield 41, 3) := by decide +kernel
theorem dX6_runs_160 : decode cX6_runs 160 = .ok (.iload 13, 2) := by decide +kernel
theorem dX6_runs_162 : decode cX6_runs 162 = .ok (.iaload, 1) := by decide +kernel
theorem dX6_runs_163 : decode cX6_runs 163 = .ok (.iload 10, 2) := by decide +kernel
theorem dX6_runs_165 : decode cX6_runs 165 = .ok (.if_icmp .ne 23, 3) := by decide +kernel
theorem dX6_runs_168 : decode cX6_runs 168 = .ok (.aload_n 0, 1) := by decide +kernel
theorem dX6_runs_169 : decode cX6_runs 169 = .ok (.iload 13, 2) := by decide +kernel
theorem dX6_runs_171 : decode cX6_runs 171 = .ok (.aload_n 0, 1) := by decide +kernel
theorem dX6_runs_172 : decode cX6_runs 172 = .ok (.getfield 19, 3) := by decide +kernel
theorem dX6_runs_175 : decode cX6_runs 175 = .ok (.iload_n 1, 1) := by decide +kernel
theorem dX6_runs_176 : decode cX6_runs 176 = .ok (.iaload, 1) := by decide +kernel
theorem dX6_runs_177 : decode cX6_runs 177 = .ok (.invokevirtual 138, 3) := by decide +kernel
theorem dX6_runs_180 : decode cX6_runs 180 = .ok (.ifCond .eq 8, 3) := by decide +kernel
theorem dX6_runs_183 : decode cX6_runs 183 = .ok (.iload 13, 2) := by decide +kernel
theorem dX6_runs_185 : decode cX6_runs 185 = .ok (.goto 5, 3) := by decide +kernel
theorem dX6_runs_188 : decode cX6_runs 188 = .ok (.iload 12, 2) := by decide +kernel
theorem dX6_runs_190 : decode cX6_runs 190 = .ok (.istore 12, 2) := by decide +kernel
theorem dX6_runs_192 : decode cX6_runs 192 = .ok (.iinc 13 (-1), 3) := by decide +kernel
theorem dX6_runs_195 : decode cX6_runs 195 = .ok (.goto (-44), 3) := by decide +kernel
theorem dX6_runs_198 : decode cX6_runs 198 = .ok (.iload 12, 2) := by decide +kernel
theorem dX6_runs_200 : decode cX6_runs 200 = .ok (.iconst (-1), 1) := by decide +kernel
theorem dX6_runs_201 : decode cX6_runs 201 = .ok (.if_icmp .eq 31, 3) := by decide +kernel
theorem dX6_runs_204 : decode cX6_runs 204 = .ok (.aload_n 0, 1) := by decide +kernel
theorem dX6_runs_205 : decode cX6_runs 205 = .ok (.getfield 47, 3) := by decide +kernel
theorem dX6_runs_208 : decode cX6_runs 208 = .ok (.iload 12, 2) := by decide +kernel
theorem dX6_runs_210 : decode cX6_runs 210 = .ok (.dup2, 1) := by decide +kernel
theorem dX6_runs_211 : decode cX6_runs 211 = .ok (.iaload, 1) := by decide +kernel
theorem dX6_runs_212 : decode cX6_runs 212 = .ok (.iload 11, 2) := by decide +kernel
theorem dX6_runs_214 : decode cX6_runs 214 = .ok (.iadd, 1) := by decide +kernel
theorem dX6_runs_215 : decode cX6_runs 215 = .ok (.iastore, 1) := by decide +kernel
theorem dX6_runs_216 : decode cX6_runs 216 = .ok (.aload_n 0, 1) := by decide +kernel
theorem dX6_runs_217 : decode cX6_runs 217 = .ok (.getfield 50, 3) := by decide +kernel
theorem dX6_runs_220 : decode cX6_runs 220 = .ok (.iload 12, 2) := by decide +kernel
theorem dX6_runs_222 : decode cX6_runs 222 = .ok (.aload_n 0, 1) := by decide +kernel
theorem dX6_runs_223 : decode cX6_runs 223 = .ok (.getfield 19, 3) := by decide +kernel
theorem dX6_runs_226 : decode cX6_runs 226 = .ok (.iload_n 1, 1) := by decide +kernel
theorem dX6_runs_227 : decode cX6_runs 227 = .ok (.iaload, 1) := by decide +kernel
theorem dX6_runs_228 : decode cX6_runs 228 = .ok (.iastore, 1) := by decide +kernel
theorem dX6_runs_229 : decode cX6_runs 229 = .ok (.iinc 8 1, 3) := by decide +kernel
theorem dX6_runs_232 : decode cX6_runs 232 = .ok (.aload_n 0, 1) := by decide +kernel
theorem dX6_runs_233 : decode cX6_runs 233 = .ok (.getfield 62, 3) := by decide +kernel
theorem dX6_runs_236 : decode cX6_runs 236 = .ok (.bipush 15, 2) := by decide +kernel
theorem dX6_runs_238 : decode cX6_runs 238 = .ok (.iload_n 1, 1) := by decide +kernel
theorem dX6_runs_239 : decode cX6_runs 239 = .ok (.imul, 1) := by decide +kernel
theorem dX6_runs_240 : decode cX6_runs 240 = .ok (.iload 9, 2) := by decide +kernel
theorem dX6_runs_242 : decode cX6_runs 242 = .ok (.iadd, 1) := by decide +kernel
theorem dX6_runs_243 : decode cX6_runs 243 = .ok (.iload 11, 2) := by decide +kernel
theorem dX6_runs_245 : decode cX6_runs 245 = .ok (.iastore, 1) := by decide +kernel
theorem dX6_runs_246 : decode cX6_runs 246 = .ok (.aload_n 0, 1) := by decide +kernel
theorem dX6_runs_247 : decode cX6_runs 247 = .ok (.getfield 65, 3) := by decide +kernel
theorem dX6_runs_250 : decode cX6_runs 250 = .ok (.bipush 15, 2) := by decide +kernel
theorem dX6_runs_252 : decode cX6_runs 252 = .ok (.iload_n 1, 1) := by decide +kernel
theorem dX6_runs_253 : decode cX6_runs 253 = .ok (.imul, 1) := by decide +kernel
theorem dX6_runs_254 : decode cX6_runs 254 = .ok (.iload 9, 2) := by decide +kernel
theorem dX6_runs_256 : decode cX6_runs 256 = .ok (.iadd, 1) := by decide +kernel
theorem dX6_runs_257 : decode cX6_runs 257 = .ok (.iload 12, 2) := by decide +kernel
theorem dX6_runs_259 : decode cX6_runs 259 = .ok (.iastore, 1) := by decide +kernel
theorem dX6_runs_260 : decode cX6_runs 260 = .ok (.iload 7, 2) := by decide +kernel
theorem dX6_runs_262 : decode cX6_runs 262 = .ok (.iload 11, 2) := by decide +kernel
theorem dX6_runs_264 : decode cX6_runs 264 = .ok (.isub, 1) := by decide +kernel
theorem dX6_runs_265 : decode cX6_runs 265 = .ok (.istore 7, 2) := by decide +kernel
theorem dX6_runs_267 : decode cX6_runs 267 = .ok (.iinc 9 1, 3) := by decide +kernel
theorem dX6_runs_270 : decode cX6_runs 270 = .ok (.goto (-169), 3) := by decide +kernel
theorem dX6_runs_273 : decode cX6_runs 273 = .ok (.aload_n 0, 1) := by decide +kernel
theorem dX6_runs_274 : decode cX6_runs 274 = .ok (.getfield 68, 3) := by decide +kernel
theorem dX6_runs_277 : decode cX6_runs 277 = .ok (.iconst 3, 1) := by decide +kernel
theorem dX6_runs_278 : decode cX6_runs 278 = .ok (.iload_n 1, 1) := by decide +kernel
theorem dX6_runs_279 : decode cX6_runs 279 = .ok (.imul, 1) := by decide +kernel
theorem dX6_runs_280 : decode cX6_runs 280 = .ok (.iload_n 3, 1) := by decide +kernel
theorem dX6_runs_281 : decode cX6_runs 281 = .ok (.iastore, 1) := by decide +kernel
theorem dX6_runs_282 : decode cX6_runs 282 = .ok (.aload_n 0, 1) := by decide +kernel
theorem dX6_runs_283 : decode cX6_runs 283 = .ok (.getfield 68, 3) := by decide +kernel
theorem dX6_runs_286 : decode cX6_runs 286 = .ok (.iconst 3, 1) := by decide +kernel
theorem dX6_runs_287 : decode cX6_runs 287 = .ok (.iload_n 1, 1) := by decide +kernel
theorem dX6_runs_288 : decode cX6_runs 288 = .ok (.imul, 1) := by decide +kernel
theorem dX6_runs_289 : decode cX6_runs 289 = .ok (.iconst 1, 1) := by decide +kernel
theorem dX6_runs_290 : decode cX6_runs 290 = .ok (.iadd, 1) := by decide +kernel
theorem dX6_runs_291 : decode cX6_runs 291 = .ok (.iload 5, 2) := by decide +kernel
theorem dX6_runs_293 : decode cX6_runs 293 = .ok (.iastore, 1) := by decide +kernel
theorem dX6_runs_294 : decode cX6_runs 294 = .ok (.aload_n 0, 1) := by decide +kernel
theorem dX6_runs_295 : decode cX6_runs 295 = .ok (.getfield 68, 3) := by decide +kernel
theorem dX6_runs_298 : decode cX6_runs 298 = .ok (.iconst 3, 1) := by decide +kernel
theorem dX6_runs_299 : decode cX6_runs 299 = .ok (.iload_n 1, 1) := by decide +kernel
theorem dX6_runs_300 : decode cX6_runs 300 = .ok (.imul, 1) := by decide +kernel
theorem dX6_runs_301 : decode cX6_runs 301 = .ok (.iconst 2, 1) := by decide +kernel
theorem dX6_runs_302 : decode cX6_runs 302 = .ok (.iadd, 1) := by decide +kernel
theorem dX6_runs_303 : decode cX6_runs 303 = .ok (.iload 7, 2) := by decide +kernel
theorem dX6_runs_305 : decode cX6_runs 305 = .ok (.iastore, 1) := by decide +kernel
theorem dX6_runs_306 : decode cX6_runs 306 = .ok (.iload 8, 2) := by decide +kernel
theorem dX6_runs_308 : decode cX6_runs 308 = .ok (.ireturn, 1) := by decide +kernel
theorem dX6_run_0 : decode cX6_run 0 = .ok (.aload_n 0, 1) := by decide +kernel
theorem dX6_run_1 : decode cX6_run 1 = .ok (.iload_n 1, 1) := by decide +kernel
theorem dX6_run_2 : decode cX6_run 2 = .ok (.invokevirtual 106, 3) := by decide +kernel
theorem dX6_run_5 : decode cX6_run 5 = .ok (.ifCond .eq 15, 3) := by decide +kernel
theorem dX6_run_8 : decode cX6_run 8 = .ok (.aload_n 0, 1) := by decide +kernel
theorem dX6_run_9 : decode cX6_run 9 = .ok (.iload_n 2, 1) := by decide +kernel
theorem dX6_run_10 : decode cX6_run 10 = .ok (.invokevirtual 131, 3) := by decide +kernel
theorem dX6_run_13 : decode cX6_run 13 = .ok (.ifCond .eq 7, 3) := by decide +kernel
theorem dX6_run_16 : decode cX6_run 16 = .ok (.iconst 1, 1) := by decide +kernel
theorem dX6_run_17 : decode cX6_run 17 = .ok (.goto 4, 3) := by decide +kernel
theorem dX6_run_20 : decode cX6_run 20 = .ok (.iconst 0, 1) := by decide +kernel
theorem dX6_run_21 : decode cX6_run 21 = .ok (.istore_n 3, 1) := by decide +kernel
theorem dX6_run_22 : decode cX6_run 22 = .ok (.aload_n 0, 1) := by decide +kernel
theorem dX6_run_23 : decode cX6_run 23 = .ok (.iload_n 3, 1) := by decide +kernel
theorem dX6_run_24 : decode cX6_run 24 = .ok (.iload_n 3, 1) := by decide +kernel
theorem dX6_run_25 : decode cX6_run 25 = .ok (.ifCond .eq 26, 3) := by decide +kernel
theorem dX6_run_28 : decode cX6_run 28 = .ok (.aload_n 0, 1) := by decide +kernel
theorem dX6_run_29 : decode cX6_run 29 = .ok (.getfield 59, 3) := by decide +kernel
theorem dX6_run_32 : decode cX6_run 32 = .ok (.iload_n 1, 1) := by decide +kernel
theorem dX6_run_33 : decode cX6_run 33 = .ok (.iaload, 1) := by decide +kernel
theorem dX6_run_34 : decode cX6_run 34 = .ok (.iconst (-1), 1) := by decide +kernel
theorem dX6_run_35 : decode cX6_run 35 = .ok (.if_icmp .ne 16, 3) := by decide +kernel
theorem dX6_run_38 : decode cX6_run 38 = .ok (.aload_n 0, 1) := by decide +kernel
theorem dX6_run_39 : decode cX6_run 39 = .ok (.iload_n 2, 1) := by decide +kernel
theorem dX6_run_40 : decode cX6_run 40 = .ok (.iload_n 1, 1) := by decide +kernel
theorem dX6_run_41 : decode cX6_run 41 = .ok (.invokevirtual 134, 3) := by decide +kernel
theorem dX6_run_44 : decode cX6_run 44 = .ok (.ifCond .eq 7, 3) := by decide +kernel
theorem dX6_run_47 : decode cX6_run 47 = .ok (.iconst 1, 1) := by decide +kernel
theorem dX6_run_48 : decode cX6_run 48 = .ok (.goto 4, 3) := by decide +kernel
theorem dX6_run_51 : decode cX6_run 51 = .ok (.iconst 0, 1) := by decide +kernel
theorem dX6_run_52 : decode cX6_run 52 = .ok (.invokevirtual 102, 3) := by decide +kernel
theorem dX6_run_55 : decode cX6_run 55 = .ok (.ifCond .eq 12, 3) := by decide +kernel
theorem dX6_run_58 : decode cX6_run 58 = .ok (.aload_n 0, 1) := by decide +kernel
theorem dX6_run_59 : decode cX6_run 59 = .ok (.iload_n 1, 1) := by decide +kernel
theorem dX6_run_60 : decode cX6_run 60 = .ok (.iload_n 2, 1) := by decide +kernel
theorem dX6_run_61 : decode cX6_run 61 = .ok (.invokevirtual 154, 3) := by decide +kernel
theorem dX6_run_64 : decode cX6_run 64 = .ok (.goto 4, 3) := by decide +kernel
theorem dX6_run_67 : decode cX6_run 67 = .ok (.iconst 0, 1) := by decide +kernel
theorem dX6_run_68 : decode cX6_run 68 = .ok (.ireturn, 1) := by decide +kernel
theorem dX6_moves_0 : decode cX6_moves 0 = .ok (.aload_n 0, 1) := by decide +kernel
theorem dX6_moves_1 : decode cX6_moves 1 = .ok (.aload_n 0, 1) := by decide +kernel
theorem dX6_moves_2 : decode cX6_moves 2 = .ok (.iload_n 1, 1) := by decide +kernel
theorem dX6_moves_3 : decode cX6_moves 3 = .ok (.invokevirtual 131, 3) := by decide +kernel
theorem dX6_moves_6 : decode cX6_moves 6 = .ok (.invokevirtual 117, 3) := by decide +kernel
theorem dX6_moves_9 : decode cX6_moves 9 = .ok (.ifCond .eq 15, 3) := by decide +kernel
theorem dX6_moves_12 : decode cX6_moves 12 = .ok (.aload_n 0, 1) := by decide +kernel
theorem dX6_moves_13 : decode cX6_moves 13 = .ok (.aload_n 0, 1) := by decide +kernel
theorem dX6_moves_14 : decode cX6_moves 14 = .ok (.getfield 71, 3) := by decide +kernel
theorem dX6_moves_17 : decode cX6_moves 17 = .ok (.iload_n 1, 1) := by decide +kernel
theorem dX6_moves_18 : decode cX6_moves 18 = .ok (.invokevirtual 150, 3) := by decide +kernel
theorem dX6_moves_21 : decode cX6_moves 21 = .ok (.goto 4, 3) := by decide +kernel
theorem dX6_moves_24 : decode cX6_moves 24 = .ok (.iconst 0, 1) := by decide +kernel
theorem dX6_moves_25 : decode cX6_moves 25 = .ok (.ireturn, 1) := by decide +kernel
theorem dX6_moved_0 : decode cX6_moved 0 = .ok (.aload_n 0, 1) := by decide +kernel
theorem dX6_moved_1 : decode cX6_moved 1 = .ok (.aload_n 0, 1) := by decide +kernel
theorem dX6_moved_2 : decode cX6_moved 2 = .ok (.getfield 147, 3) := by decide +kernel
theorem dX6_moved_5 : decode cX6_moved 5 = .ok (.invokevirtual 128, 3) := by decide +kernel
theorem dX6_moved_8 : decode cX6_moved 8 = .ok (.ireturn, 1) := by decide +kernel
theorem dX6_plan_0 : decode cX6_plan 0 = .ok (.aload_n 0, 1) := by decide +kernel
theorem dX6_plan_1 : decode cX6_plan 1 = .ok (.iload_n 1, 1) := by decide +kernel
theorem dX6_plan_2 : decode cX6_plan 2 = .ok (.invokevirtual 106, 3) := by decide +kernel
theorem dX6_plan_5 : decode cX6_plan 5 = .ok (.ifCond .eq 15, 3) := by decide +kernel
theorem dX6_plan_8 : decode cX6_plan 8 = .ok (.aload_n 0, 1) := by decide +kernel
theorem dX6_plan_9 : decode cX6_plan 9 = .ok (.iload_n 2, 1) := by decide +kernel
theorem dX6_plan_10 : decode cX6_plan 10 = .ok (.invokevirtual 131, 3) := by decide +kernel
theorem dX6_plan_13 : decode cX6_plan 13 = .ok (.ifCond .eq 7, 3) := by decide +kernel
theorem dX6_plan_16 : decode cX6_plan 16 = .ok (.iconst 1, 1) := by decide +kernel
theorem dX6_plan_17 : decode cX6_plan 17 = .ok (.goto 4, 3) := by decide +kernel
theorem dX6_plan_20 : decode cX6_plan 20 = .ok (.iconst 0, 1) := by decide +kernel
theorem dX6_plan_21 : decode cX6_plan 21 = .ok (.istore_n 3, 1) := by decide +kernel
theorem dX6_plan_22 : decode cX6_plan 22 = .ok (.iload_n 3, 1) := by decide +kernel
theorem dX6_plan_23 : decode cX6_plan 23 = .ok (.ifCond .eq 35, 3) := by decide +kernel
theorem dX6_plan_26 : decode cX6_plan 26 = .ok (.aload_n 0, 1) := by decide +kernel
theorem dX6_plan_27 : decode cX6_plan 27 = .ok (.getfield 59, 3) := by decide +kernel
theorem dX6_plan_30 : decode cX6_plan 30 = .ok (.iload_n 1, 1) := by decide +kernel
theorem dX6_plan_31 : decode cX6_plan 31 = .ok (.iaload, 1) := by decide +kernel
theorem dX6_plan_32 : decode cX6_plan 32 = .ok (.iconst (-1), 1) := by decide +kernel
theorem dX6_plan_33 : decode cX6_plan 33 = .ok (.if_icmp .ne 25, 3) := by decide +kernel
theorem dX6_plan_36 : decode cX6_plan 36 = .ok (.aload_n 0, 1) := by decide +kernel
theorem dX6_plan_37 : decode cX6_plan 37 = .ok (.iload_n 2, 1) := by decide +kernel
theorem dX6_plan_38 : decode cX6_plan 38 = .ok (.iload_n 1, 1) := by decide +kernel
theorem dX6_plan_39 : decode cX6_plan 39 = .ok (.invokevirtual 134, 3) := by decide +kernel
theorem dX6_plan_42 : decode cX6_plan 42 = .ok (.ifCond .eq 16, 3) := by decide +kernel
theorem dX6_plan_45 : decode cX6_plan 45 = .ok (.aload_n 0, 1) := by decide +kernel
theorem dX6_plan_46 : decode cX6_plan 46 = .ok (.getfield 157, 3) := by decide +kernel
theorem dX6_plan_49 : decode cX6_plan 49 = .ok (.bipush 7, 2) := by decide +kernel
theorem dX6_plan_51 : decode cX6_plan 51 = .ok (.if_icmp .ge 7, 3) := by decide +kernel
theorem dX6_plan_54 : decode cX6_plan 54 = .ok (.iconst 1, 1) := by decide +kernel
theorem dX6_plan_55 : decode cX6_plan 55 = .ok (.goto 4, 3) := by decide +kernel
theorem dX6_plan_58 : decode cX6_plan 58 = .ok (.iconst 0, 1) := by decide +kernel
theorem dX6_plan_59 : decode cX6_plan 59 = .ok (.istore 4, 2) := by decide +kernel
theorem dX6_plan_61 : decode cX6_plan 61 = .ok (.iconst 0, 1) := by decide +kernel
theorem dX6_plan_62 : decode cX6_plan 62 = .ok (.istore 5, 2) := by decide +kernel
theorem dX6_plan_64 : decode cX6_plan 64 = .ok (.iload 5, 2) := by decide +kernel
theorem dX6_plan_66 : decode cX6_plan 66 = .ok (.aload_n 0, 1) := by decide +kernel
theorem dX6_plan_67 : decode cX6_plan 67 = .ok (.getfield 157, 3) := by decide +kernel
theorem dX6_plan_70 : decode cX6_plan 70 = .ok (.if_icmp .ge 32, 3) := by decide +kernel
theorem dX6_plan_73 : decode cX6_plan 73 = .ok (.iload 4, 2) := by decide +kernel
theorem dX6_plan_75 : decode cX6_plan 75 = .ok (.ifCond .eq 18, 3) := by decide +kernel
theorem dX6_plan_78 : decode cX6_plan 78 = .ok (.aload_n 0, 1) := by decide +kernel
theorem dX6_plan_79 : decode cX6_plan 79 = .ok (.getfield 74, 3) := by decide +kernel
theorem dX6_plan_82 : decode cX6_plan 82 = .ok (.iload 5, 2) := by decide +kernel
theorem dX6_plan_84 : decode cX6_plan 84 = .ok (.iaload, 1) := by decide +kernel
theorem dX6_plan_85 : decode cX6_plan 85 = .ok (.iload_n 1, 1) := by decide +kernel
theorem dX6_plan_86 : decode cX6_plan 86 = .ok (.if_icmp .eq 7, 3) := by decide +kernel
theorem dX6_plan_89 : decode cX6_plan 89 = .ok (.iconst 1, 1) := by decide +kernel
theorem dX6_plan_90 : decode cX6_plan 90 = .ok (.goto 4, 3) := by decide +kernel
theorem dX6_plan_93 : decode cX6_plan 93 = .ok (.iconst 0, 1) := by decide +kernel
theorem dX6_plan_94 : decode cX6_plan 94 = .ok (.istore 4, 2) := by decide +kernel
theorem dX6_plan_96 : decode cX6_plan 96 = .ok (.iinc 5 1, 3) := by decide +kernel
theorem dX6_plan_99 : decode cX6_plan 99 = .ok (.goto (-35), 3) := by decide +kernel
theorem dX6_plan_102 : decode cX6_plan 102 = .ok (.aload_n 0, 1) := by decide +kernel
theorem dX6_plan_103 : decode cX6_plan 103 = .ok (.iload_n 3, 1) := by decide +kernel
theorem dX6_plan_104 : decode cX6_plan 104 = .ok (.iload 4, 2) := by decide +kernel
theorem dX6_plan_106 : decode cX6_plan 106 = .ok (.invokevirtual 102, 3) := by decide +kernel
theorem dX6_plan_109 : decode cX6_plan 109 = .ok (.ifCond .ne 5, 3) := by decide +kernel
theorem dX6_plan_112 : decode cX6_plan 112 = .ok (.iconst 0, 1) := by decide +kernel
theorem dX6_plan_113 : decode cX6_plan 113 = .ok (.ireturn, 1) := by decide +kernel
theorem dX6_plan_114 : decode cX6_plan 114 = .ok (.aload_n 0, 1) := by decide +kernel
theorem dX6_plan_115 : decode cX6_plan 115 = .ok (.getfield 74, 3) := by decide +kernel
theorem dX6_plan_118 : decode cX6_plan 118 = .ok (.aload_n 0, 1) := by decide +kernel
theorem dX6_plan_119 : decode cX6_plan 119 = .ok (.getfield 157, 3) := by decide +kernel
theorem dX6_plan_122 : decode cX6_plan 122 = .ok (.iload_n 1, 1) := by decide +kernel
theorem dX6_plan_123 : decode cX6_plan 123 = .ok (.iastore, 1) := by decide +kernel
theorem dX6_plan_124 : decode cX6_plan 124 = .ok (.aload_n 0, 1) := by decide +kernel
theorem dX6_plan_125 : decode cX6_plan 125 = .ok (.getfield 77, 3) := by decide +kernel
theorem dX6_plan_128 : decode cX6_plan 128 = .ok (.aload_n 0, 1) := by decide +kernel
theorem dX6_plan_129 : decode cX6_plan 129 = .ok (.getfield 157, 3) := by decide +kernel
theorem dX6_plan_132 : decode cX6_plan 132 = .ok (.iload_n 2, 1) := by decide +kernel
theorem dX6_plan_133 : decode cX6_plan 133 = .ok (.iastore, 1) := by decide +kernel
theorem dX6_plan_134 : decode cX6_plan 134 = .ok (.aload_n 0, 1) := by decide +kernel
theorem dX6_plan_135 : decode cX6_plan 135 = .ok (.dup, 1) := by decide +kernel
theorem dX6_plan_136 : decode cX6_plan 136 = .ok (.getfield 157, 3) := by decide +kernel
theorem dX6_plan_139 : decode cX6_plan 139 = .ok (.iconst 1, 1) := by decide +kernel
theorem dX6_plan_140 : decode cX6_plan 140 = .ok (.iadd, 1) := by decide +kernel
theorem dX6_plan_141 : decode cX6_plan 141 = .ok (.putfield 157, 3) := by decide +kernel
theorem dX6_plan_144 : decode cX6_plan 144 = .ok (.aload_n 0, 1) := by decide +kernel
theorem dX6_plan_145 : decode cX6_plan 145 = .ok (.getfield 157, 3) := by decide +kernel
theorem dX6_plan_148 : decode cX6_plan 148 = .ok (.iconst 1, 1) := by decide +kernel
theorem dX6_plan_149 : decode cX6_plan 149 = .ok (.isub, 1) := by decide +kernel
theorem dX6_plan_150 : decode cX6_plan 150 = .ok (.ireturn, 1) := by decide +kernel
theorem dX6_waiting_0 : decode cX6_waiting 0 = .ok (.aload_n 0, 1) := by decide +kernel
theorem dX6_waiting_1 : decode cX6_waiting 1 = .ok (.aload_n 0, 1) := by decide +kernel
theorem dX6_waiting_2 : decode cX6_waiting 2 = .ok (.getfield 157, 3) := by decide +kernel
theorem dX6_waiting_5 : decode cX6_waiting 5 = .ok (.invokevirtual 128, 3) := by decide +kernel
theorem dX6_waiting_8 : decode cX6_waiting 8 = .ok (.ireturn, 1) := by decide +kernel
theorem dX6_between_0 : decode cX6_between 0 = .ok (.aload_n 0, 1) := by decide +kernel
theorem dX6_between_1 : decode cX6_between 1 = .ok (.iload_n 1, 1) := by decide +kernel
theorem dX6_between_2 : decode cX6_between 2 = .ok (.bipush 7, 2) := by decide +kernel
theorem dX6_between_4 : decode cX6_between 4 = .ok (.if_icmp .ne 10, 3) := by decide +kernel
theorem dX6_between_7 : decode cX6_between 7 = .ok (.aload_n 0, 1) := by decide +kernel
theorem dX6_between_8 : decode cX6_between 8 = .ok (.getfield 71, 3) := by decide +kernel
theorem dX6_between_11 : decode cX6_between 11 = .ok (.goto 9, 3) := by decide +kernel
theorem dX6_between_14 : decode cX6_between 14 = .ok (.aload_n 0, 1) := by decide +kernel
theorem dX6_between_15 : decode cX6_between 15 = .ok (.getfield 77, 3) := by decide +kernel
theorem dX6_between_18 : decode cX6_between 18 = .ok (.iload_n 1, 1) := by decide +kernel
theorem dX6_between_19 : decode cX6_between 19 = .ok (.iaload, 1) := by decide +kernel
theorem dX6_between_20 : decode cX6_between 20 = .ok (.aload_n 0, 1) := by decide +kernel
theorem dX6_between_21 : decode cX6_between 21 = .ok (.getfield 77, 3) := by decide +kernel
theorem dX6_between_24 : decode cX6_between 24 = .ok (.iload_n 2, 1) := by decide +kernel
theorem dX6_between_25 : decode cX6_between 25 = .ok (.iaload, 1) := by decide +kernel
theorem dX6_between_26 : decode cX6_between 26 = .ok (.invokevirtual 150, 3) := by decide +kernel
theorem dX6_between_29 : decode cX6_between 29 = .ok (.ireturn, 1) := by decide +kernel
theorem dX6_best_0 : decode cX6_best 0 = .ok (.iconst 1, 1) := by decide +kernel
theorem dX6_best_1 : decode cX6_best 1 = .ok (.aload_n 0, 1) := by decide +kernel
theorem dX6_best_2 : decode cX6_best 2 = .ok (.getfield 157, 3) := by decide +kernel
theorem dX6_best_5 : decode cX6_best 5 = .ok (.ishl, 1) := by decide +kernel
theorem dX6_best_6 : decode cX6_best 6 = .ok (.iconst 1, 1) := by decide +kernel
theorem dX6_best_7 : decode cX6_best 7 = .ok (.isub, 1) := by decide +kernel
theorem dX6_best_8 : decode cX6_best 8 = .ok (.istore_n 1, 1) := by decide +kernel
theorem dX6_best_9 : decode cX6_best 9 = .ok (.iload_n 1, 1) := by decide +kernel
theorem dX6_best_10 : decode cX6_best 10 = .ok (.istore_n 2, 1) := by decide +kernel
theorem dX6_best_11 : decode cX6_best 11 = .ok (.iload_n 2, 1) := by decide +kernel
theorem dX6_best_12 : decode cX6_best 12 = .ok (.ifCond .lt 134, 3) := by decide +kernel
theorem dX6_best_15 : decode cX6_best 15 = .ok (.iconst 0, 1) := by decide +kernel
theorem dX6_best_16 : decode cX6_best 16 = .ok (.istore_n 3, 1) := by decide +kernel
theorem dX6_best_17 : decode cX6_best 17 = .ok (.iload_n 3, 1) := by decide +kernel
theorem dX6_best_18 : decode cX6_best 18 = .ok (.bipush 7, 2) := by decide +kernel
theorem dX6_best_20 : decode cX6_best 20 = .ok (.if_icmp .gt 120, 3) := by decide +kernel
theorem dX6_best_23 : decode cX6_best 23 = .ok (.iload_n 2, 1) := by decide +kernel
theorem dX6_best_24 : decode cX6_best 24 = .ok (.iload_n 1, 1) := by decide +kernel
theorem dX6_best_25 : decode cX6_best 25 = .ok (.if_icmp .ne 7, 3) := by decide +kernel
theorem dX6_best_28 : decode cX6_best 28 = .ok (.iconst 0, 1) := by decide +kernel
theorem dX6_best_29 : decode cX6_best 29 = .ok (.goto 6, 3) := by decide +kernel
theorem dX6_best_32 : decode cX6_best 32 = .ok (.sipush 1000, 3) := by decide +kernel
theorem dX6_best_35 : decode cX6_best 35 = .ok (.istore 4, 2) := by decide +kernel
theorem dX6_best_37 : decode cX6_best 37 = .ok (.iconst 0, 1) := by decide +kernel
theorem dX6_best_38 : decode cX6_best 38 = .ok (.istore 5, 2) := by decide +kernel
theorem dX6_best_40 : decode cX6_best 40 = .ok (.iload 5, 2) := by decide +kernel
theorem dX6_best_42 : decode cX6_best 42 = .ok (.aload_n 0, 1) := by decide +kernel
theorem dX6_best_43 : decode cX6_best 43 = .ok (.getfield 157, 3) := by decide +kernel
theorem dX6_best_46 : decode cX6_best 46 = .ok (.if_icmp .ge 75, 3) := by decide +kernel
theorem dX6_best_49 : decode cX6_best 49 = .ok (.iload_n 3, 1) := by decide +kernel
theorem dX6_best_50 : decode cX6_best 50 = .ok (.aload_n 0, 1) := by decide +kernel
theorem dX6_best_51 : decode cX6_best 51 = .ok (.getfield 157, 3) := by decide +kernel
theorem dX6_best_54 : decode cX6_best 54 = .ok (.if_icmp .lt 9, 3) := by decide +kernel
theorem dX6_best_57 : decode cX6_best 57 = .ok (.iload_n 3, 1) := by decide +kernel
theorem dX6_best_58 : decode cX6_best 58 = .ok (.bipush 7, 2) := by decide +kernel
theorem dX6_best_60 : decode cX6_best 60 = .ok (.if_icmp .ne 61, 3) := by decide +kernel
theorem dX6_best_63 : decode cX6_best 63 = .ok (.iload_n 2, 1) := by decide +kernel
theorem dX6_best_64 : decode cX6_best 64 = .ok (.iload 5, 2) := by decide +kernel
theorem dX6_best_66 : decode cX6_best 66 = .ok (.ishr, 1) := by decide +kernel
theorem dX6_best_67 : decode cX6_best 67 = .ok (.iconst 1, 1) := by decide +kernel
theorem dX6_best_68 : decode cX6_best 68 = .ok (.iand, 1) := by decide +kernel
theorem dX6_best_69 : decode cX6_best 69 = .ok (.ifCond .ne 46, 3) := by decide +kernel
theorem dX6_best_72 : decode cX6_best 72 = .ok (.aload_n 0, 1) := by decide +kernel
theorem dX6_best_73 : decode cX6_best 73 = .ok (.iload_n 3, 1) := by decide +kernel
theorem dX6_best_74 : decode cX6_best 74 = .ok (.iload 5, 2) := by decide +kernel
theorem dX6_best_76 : decode cX6_best 76 = .ok (.invokevirtual 160, 3) := by decide +kernel
theorem dX6_best_79 : decode cX6_best 79 = .ok (.aload_n 0, 1) := by decide +kernel
theorem dX6_best_80 : decode cX6_best 80 = .ok (.getfield 83, 3) := by decide +kernel
theorem dX6_best_83 : decode cX6_best 83 = .ok (.bipush 8, 2) := by decide +kernel
theorem dX6_best_85 : decode cX6_best 85 = .ok (.iload_n 2, 1) := by decide +kernel
theorem dX6_best_86 : decode cX6_best 86 = .ok (.iconst 1, 1) := by decide +kernel
theorem dX6_best_87 : decode cX6_best 87 = .ok (.iload 5, 2) := by decide +kernel
theorem dX6_best_89 : decode cX6_best 89 = .ok (.ishl, 1) := by decide +kernel
theorem dX6_best_90 : decode cX6_best 90 = .ok (.ior, 1) := by decide +kernel
theorem dX6_best_91 : decode cX6_best 91 = .ok (.imul, 1) := by decide +kernel
theorem dX6_best_92 : decode cX6_best 92 = .ok (.iload 5, 2) := by decide +kernel
theorem dX6_best_94 : decode cX6_best 94 = .ok (.iadd, 1) := by decide +kernel
theorem dX6_best_95 : decode cX6_best 95 = .ok (.iaload, 1) := by decide +kernel
theorem dX6_best_96 : decode cX6_best 96 = .ok (.iadd, 1) := by decide +kernel
theorem dX6_best_97 : decode cX6_best 97 = .ok (.istore 6, 2) := by decide +kernel
theorem dX6_best_99 : decode cX6_best 99 = .ok (.iload 6, 2) := by decide +kernel
theorem dX6_best_101 : decode cX6_best 101 = .ok (.iload 4, 2) := by decide +kernel
theorem dX6_best_103 : decode cX6_best 103 = .ok (.if_icmp .ge 8, 3) := by decide +kernel
theorem dX6_best_106 : decode cX6_best 106 = .ok (.iload 6, 2) := by decide +kernel
theorem dX6_best_108 : decode cX6_best 108 = .ok (.goto 5, 3) := by decide +kernel
theorem dX6_best_111 : decode cX6_best 111 = .ok (.iload 4, 2) := by decide +kernel
theorem dX6_best_113 : decode cX6_best 113 = .ok (.istore 4, 2) := by decide +kernel
theorem dX6_best_115 : decode cX6_best 115 = .ok (.iinc 5 1, 3) := by decide +kernel
theorem dX6_best_118 : decode cX6_best 118 = .ok (.goto (-78), 3) := by decide +kernel
theorem dX6_best_121 : decode cX6_best 121 = .ok (.aload_n 0, 1) := by decide +kernel
theorem dX6_best_122 : decode cX6_best 122 = .ok (.getfield 83, 3) := by decide +kernel
theorem dX6_best_125 : decode cX6_best 125 = .ok (.bipush 8, 2) := by decide +kernel
theorem dX6_best_127 : decode cX6_best 127 = .ok (.iload_n 2, 1) := by decide +kernel
theorem dX6_best_128 : decode cX6_best 128 = .ok (.imul, 1) := by decide +kernel
theorem dX6_best_129 : decode cX6_best 129 = .ok (.iload_n 3, 1) := by decide +kernel
theorem dX6_best_130 : decode cX6_best 130 = .ok (.iadd, 1) := by decide +kernel
theorem dX6_best_131 : decode cX6_best 131 = .ok (.iload 4, 2) := by decide +kernel
theorem dX6_best_133 : decode cX6_best 133 = .ok (.iastore, 1) := by decide +kernel
theorem dX6_best_134 : decode cX6_best 134 = .ok (.iinc 3 1, 3) := by decide +kernel
theorem dX6_best_137 : decode cX6_best 137 = .ok (.goto (-120), 3) := by decide +kernel
theorem dX6_best_140 : decode cX6_best 140 = .ok (.iinc 2 (-1), 3) := by decide +kernel
theorem dX6_best_143 : decode cX6_best 143 = .ok (.goto (-132), 3) := by decide +kernel
theorem dX6_best_146 : decode cX6_best 146 = .ok (.iconst 0, 1) := by decide +kernel
theorem dX6_best_147 : decode cX6_best 147 = .ok (.istore_n 2, 1) := by decide +kernel
theorem dX6_best_148 : decode cX6_best 148 = .ok (.bipush 7, 2) := by decide +kernel
theorem dX6_best_150 : decode cX6_best 150 = .ok (.istore_n 3, 1) := by decide +kernel
theorem dX6_best_151 : decode cX6_best 151 = .ok (.iconst 0, 1) := by decide +kernel
theorem dX6_best_152 : decode cX6_best 152 = .ok (.istore 4, 2) := by decide +kernel
theorem dX6_best_154 : decode cX6_best 154 = .ok (.iload 4, 2) := by decide +kernel
theorem dX6_best_156 : decode cX6_best 156 = .ok (.aload_n 0, 1) := by decide +kernel
theorem dX6_best_157 : decode cX6_best 157 = .ok (.getfield 157, 3) := by decide +kernel
theorem dX6_best_160 : decode cX6_best 160 = .ok (.if_icmp .ge 119, 3) := by decide +kernel
theorem dX6_best_163 : decode cX6_best 163 = .ok (.iconst (-1), 1) := by decide +kernel
theorem dX6_best_164 : decode cX6_best 164 = .ok (.istore 5, 2) := by decide +kernel
theorem dX6_best_166 : decode cX6_best 166 = .ok (.aload_n 0, 1) := by decide +kernel
theorem dX6_best_167 : decode cX6_best 167 = .ok (.getfield 157, 3) := by decide +kernel
theorem dX6_best_170 : decode cX6_best 170 = .ok (.iconst 1, 1) := by decide +kernel
theorem dX6_best_171 : decode cX6_best 171 = .ok (.isub, 1) := by decide +kernel
theorem dX6_best_172 : decode cX6_best 172 = .ok (.istore 6, 2) := by decide +kernel
theorem dX6_best_174 : decode cX6_best 174 = .ok (.iload 6, 2) := by decide +kernel
theorem dX6_best_176 : decode cX6_best 176 = .ok (.ifCond .lt 78, 3) := by decide +kernel
theorem dX6_best_179 : decode cX6_best 179 = .ok (.iload_n 2, 1) := by decide +kernel
theorem dX6_best_180 : decode cX6_best 180 = .ok (.iload 6, 2) := by decide +kernel
theorem dX6_best_182 : decode cX6_best 182 = .ok (.ishr, 1) := by decide +kernel
theorem dX6_best_183 : decode cX6_best 183 = .ok (.iconst 1, 1) := by decide +kernel
theorem dX6_best_184 : decode cX6_best 184 = .ok (.iand, 1) := by decide +kernel
theorem dX6_best_185 : decode cX6_best 185 = .ok (.ifCond .ne 46, 3) := by decide +kernel
theorem dX6_best_188 : decode cX6_best 188 = .ok (.aload_n 0, 1) := by decide +kernel
theorem dX6_best_189 : decode cX6_best 189 = .ok (.iload_n 3, 1) := by decide +kernel
theorem dX6_best_190 : decode cX6_best 190 = .ok (.iload 6, 2) := by decide +kernel
theorem dX6_best_192 : decode cX6_best 192 = .ok (.invokevirtual 160, 3) := by decide +kernel
theorem dX6_best_195 : decode cX6_best 195 = .ok (.aload_n 0, 1) := by decide +kernel
theorem dX6_best_196 : decode cX6_best 196 = .ok (.getfield 83, 3) := by decide +kernel
theorem dX6_best_199 : decode cX6_best 199 = .ok (.bipush 8, 2) := by decide +kernel
theorem dX6_best_201 : decode cX6_best 201 = .ok (.iload_n 2, 1) := by decide +kernel
theorem dX6_best_202 : decode cX6_best 202 = .ok (.iconst 1, 1) := by decide +kernel
theorem dX6_best_203 : decode cX6_best 203 = .ok (.iload 6, 2) := by decide +kernel
theorem dX6_best_205 : decode cX6_best 205 = .ok (.ishl, 1) := by decide +kernel
theorem dX6_best_206 : decode cX6_best 206 = .ok (.ior, 1) := by decide +kernel
theorem dX6_best_207 : decode cX6_best 207 = .ok (.imul, 1) := by decide +kernel
theorem dX6_best_208 : decode cX6_best 208 = .ok (.iload 6, 2) := by decide +kernel
theorem dX6_best_210 : decode cX6_best 210 = .ok (.iadd, 1) := by decide +kernel
theorem dX6_best_211 : decode cX6_best 211 = .ok (.iaload, 1) := by decide +kernel
theorem dX6_best_212 : decode cX6_best 212 = .ok (.iadd, 1) := by decide +kernel
theorem dX6_best_213 : decode cX6_best 213 = .ok (.aload_n 0, 1) := by decide +kernel
theorem dX6_best_214 : decode cX6_best 214 = .ok (.getfield 83, 3) := by decide +kernel
theorem dX6_best_217 : decode cX6_best 217 = .ok (.bipush 8, 2) := by decide +kernel
theorem dX6_best_219 : decode cX6_best 219 = .ok (.iload_n 2, 1) := by decide +kernel
theorem dX6_best_220 : decode cX6_best 220 = .ok (.imul, 1) := by decide +kernel
theorem dX6_best_221 : decode cX6_best 221 = .ok (.iload_n 3, 1) := by decide +kernel
theorem dX6_best_222 : decode cX6_best 222 = .ok (.iadd, 1) := by decide +kernel
theorem dX6_best_223 : decode cX6_best 223 = .ok (.iaload, 1) := by decide +kernel
theorem dX6_best_224 : decode cX6_best 224 = .ok (.if_icmp .ne 7, 3) := by decide +kernel
theorem dX6_best_227 : decode cX6_best 227 = .ok (.iconst 1, 1) := by decide +kernel
theorem dX6_best_228 : decode cX6_best 228 = .ok (.goto 4, 3) := by decide +kernel
theorem dX6_best_231 : decode cX6_best 231 = .ok (.iconst 0, 1) := by decide +kernel
theorem dX6_best_232 : decode cX6_best 232 = .ok (.istore 7, 2) := by decide +kernel
theorem dX6_best_234 : decode cX6_best 234 = .ok (.iload 7, 2) := by decide +kernel
theorem dX6_best_236 : decode cX6_best 236 = .ok (.ifCond .eq 8, 3) := by decide +kernel
theorem dX6_best_239 : decode cX6_best 239 = .ok (.iload 6, 2) := by decide +kernel
theorem dX6_best_241 : decode cX6_best 241 = .ok (.goto 5, 3) := by decide +kernel
theorem dX6_best_244 : decode cX6_best 244 = .ok (.iload 5, 2) := by decide +kernel
theorem dX6_best_246 : decode cX6_best 246 = .ok (.istore 5, 2) := by decide +kernel
theorem dX6_best_248 : decode cX6_best 248 = .ok (.iinc 6 (-1), 3) := by decide +kernel
theorem dX6_best_251 : decode cX6_best 251 = .ok (.goto (-77), 3) := by decide +kernel
theorem dX6_best_254 : decode cX6_best 254 = .ok (.aload_n 0, 1) := by decide +kernel
theorem dX6_best_255 : decode cX6_best 255 = .ok (.getfield 86, 3) := by decide +kernel
theorem dX6_best_258 : decode cX6_best 258 = .ok (.iload 4, 2) := by decide +kernel
theorem dX6_best_260 : decode cX6_best 260 = .ok (.iload 5, 2) := by decide +kernel
theorem dX6_best_262 : decode cX6_best 262 = .ok (.iastore, 1) := by decide +kernel
theorem dX6_best_263 : decode cX6_best 263 = .ok (.iload_n 2, 1) := by decide +kernel
theorem dX6_best_264 : decode cX6_best 264 = .ok (.iconst 1, 1) := by decide +kernel
theorem dX6_best_265 : decode cX6_best 265 = .ok (.iload 5, 2) := by decide +kernel
theorem dX6_best_267 : decode cX6_best 267 = .ok (.ishl, 1) := by decide +kernel
theorem dX6_best_268 : decode cX6_best 268 = .ok (.ior, 1) := by decide +kernel
theorem dX6_best_269 : decode cX6_best 269 = .ok (.istore_n 2, 1) := by decide +kernel
theorem dX6_best_270 : decode cX6_best 270 = .ok (.iload 5, 2) := by decide +kernel
theorem dX6_best_272 : decode cX6_best 272 = .ok (.istore_n 3, 1) := by decide +kernel
theorem dX6_best_273 : decode cX6_best 273 = .ok (.iinc 4 1, 3) := by decide +kernel
theorem dX6_best_276 : decode cX6_best 276 = .ok (.goto (-122), 3) := by decide +kernel
theorem dX6_best_279 : decode cX6_best 279 = .ok (.aload_n 0, 1) := by decide +kernel
theorem dX6_best_280 : decode cX6_best 280 = .ok (.getfield 83, 3) := by decide +kernel
theorem dX6_best_283 : decode cX6_best 283 = .ok (.bipush 7, 2) := by decide +kernel
theorem dX6_best_285 : decode cX6_best 285 = .ok (.iaload, 1) := by decide +kernel
theorem dX6_best_286 : decode cX6_best 286 = .ok (.ireturn, 1) := by decide +kernel
theorem dX6_fewestMoves_0 : decode cX6_fewestMoves 0 = .ok (.aload_n 0, 1) := by decide +kernel
theorem dX6_fewestMoves_1 : decode cX6_fewestMoves 1 = .ok (.aload_n 0, 1) := by decide +kernel
theorem dX6_fewestMoves_2 : decode cX6_fewestMoves 2 = .ok (.invokevirtual 163, 3) := by decide +kernel
theorem dX6_fewestMoves_5 : decode cX6_fewestMoves 5 = .ok (.invokevirtual 128, 3) := by decide +kernel
theorem dX6_fewestMoves_8 : decode cX6_fewestMoves 8 = .ok (.ireturn, 1) := by decide +kernel
theorem dX6_fewestByTrying_0 : decode cX6_fewestByTrying 0 = .ok (.aload_n 0, 1) := by decide +kernel
theorem dX6_fewestByTrying_1 : decode cX6_fewestByTrying 1 = .ok (.aload_n 0, 1) := by decide +kernel
theorem dX6_fewestByTrying_2 : decode cX6_fewestByTrying 2 = .ok (.invokevirtual 163, 3) := by decide +kernel
theorem dX6_fewestByTrying_5 : decode cX6_fewestByTrying 5 = .ok (.invokevirtual 128, 3) := by decide +kernel
theorem dX6_fewestByTrying_8 : decode cX6_fewestByTrying 8 = .ok (.ireturn, 1) := by decide +kernel
theorem dX6_nextAt_0 : decode cX6_nextAt 0 = .ok (.aload_n 0, 1) := by decide +kernel
theorem dX6_nextAt_1 : decode cX6_nextAt 1 = .ok (.iload_n 1, 1) := by decide +kernel
theorem dX6_nextAt_2 : decode cX6_nextAt 2 = .ok (.iconst 0, 1) := by decide +kernel
theorem dX6_nextAt_3 : decode cX6_nextAt 3 = .ok (.aload_n 0, 1) := by decide +kernel
theorem dX6_nextAt_4 : decode cX6_nextAt 4 = .ok (.getfield 157, 3) := by decide +kernel
theorem dX6_nextAt_7 : decode cX6_nextAt 7 = .ok (.iconst 1, 1) := by decide +kernel
theorem dX6_nextAt_8 : decode cX6_nextAt 8 = .ok (.isub, 1) := by decide +kernel
theorem dX6_nextAt_9 : decode cX6_nextAt 9 = .ok (.invokestatic 95, 3) := by decide +kernel
theorem dX6_nextAt_12 : decode cX6_nextAt 12 = .ok (.invokevirtual 117, 3) := by decide +kernel
theorem dX6_nextAt_15 : decode cX6_nextAt 15 = .ok (.ifCond .ne 5, 3) := by decide +kernel
theorem dX6_nextAt_18 : decode cX6_nextAt 18 = .ok (.iconst 0, 1) := by decide +kernel
theorem dX6_nextAt_19 : decode cX6_nextAt 19 = .ok (.ireturn, 1) := by decide +kernel
theorem dX6_nextAt_20 : decode cX6_nextAt 20 = .ok (.aload_n 0, 1) := by decide +kernel
theorem dX6_nextAt_21 : decode cX6_nextAt 21 = .ok (.invokevirtual 163, 3) := by decide +kernel
theorem dX6_nextAt_24 : decode cX6_nextAt 24 = .ok (.pop, 1) := by decide +kernel
theorem dX6_nextAt_25 : decode cX6_nextAt 25 = .ok (.aload_n 0, 1) := by decide +kernel
theorem dX6_nextAt_26 : decode cX6_nextAt 26 = .ok (.getfield 86, 3) := by decide +kernel
theorem dX6_nextAt_29 : decode cX6_nextAt 29 = .ok (.iload_n 1, 1) := by decide +kernel
theorem dX6_nextAt_30 : decode cX6_nextAt 30 = .ok (.iaload, 1) := by decide +kernel
theorem dX6_nextAt_31 : decode cX6_nextAt 31 = .ok (.ireturn, 1) := by decide +kernel
theorem dX6_runAll_0 : decode cX6_runAll 0 = .ok (.aload_n 0, 1) := by decide +kernel
theorem dX6_runAll_1 : decode cX6_runAll 1 = .ok (.iconst 0, 1) := by decide +kernel
theorem dX6_runAll_2 : decode cX6_runAll 2 = .ok (.putfield 89, 3) := by decide +kernel
theorem dX6_runAll_5 : decode cX6_runAll 5 = .ok (.aload_n 0, 1) := by decide +kernel
theorem dX6_runAll_6 : decode cX6_runAll 6 = .ok (.invokevirtual 163, 3) := by decide +kernel
theorem dX6_runAll_9 : decode cX6_runAll 9 = .ok (.pop, 1) := by decide +kernel
theorem dX6_runAll_10 : decode cX6_runAll 10 = .ok (.iconst 0, 1) := by decide +kernel
theorem dX6_runAll_11 : decode cX6_runAll 11 = .ok (.istore_n 1, 1) := by decide +kernel
theorem dX6_runAll_12 : decode cX6_runAll 12 = .ok (.iconst 0, 1) := by decide +kernel
theorem dX6_runAll_13 : decode cX6_runAll 13 = .ok (.istore_n 2, 1) := by decide +kernel
theorem dX6_runAll_14 : decode cX6_runAll 14 = .ok (.iload_n 2, 1) := by decide +kernel
theorem dX6_runAll_15 : decode cX6_runAll 15 = .ok (.aload_n 0, 1) := by decide +kernel
theorem dX6_runAll_16 : decode cX6_runAll 16 = .ok (.getfield 157, 3) := by decide +kernel
theorem dX6_runAll_19 : decode cX6_runAll 19 = .ok (.if_icmp .ge 65, 3) := by decide +kernel
theorem dX6_runAll_22 : decode cX6_runAll 22 = .ok (.aload_n 0, 1) := by decide +kernel
theorem dX6_runAll_23 : decode cX6_runAll 23 = .ok (.getfield 74, 3) := by decide +kernel
theorem dX6_runAll_26 : decode cX6_runAll 26 = .ok (.aload_n 0, 1) := by decide +kernel
theorem dX6_runAll_27 : decode cX6_runAll 27 = .ok (.getfield 86, 3) := by decide +kernel
theorem dX6_runAll_30 : decode cX6_runAll 30 = .ok (.iload_n 2, 1) := by decide +kernel
theorem dX6_runAll_31 : decode cX6_runAll 31 = .ok (.iaload, 1) := by decide +kernel
theorem dX6_runAll_32 : decode cX6_runAll 32 = .ok (.iaload, 1) := by decide +kernel
theorem dX6_runAll_33 : decode cX6_runAll 33 = .ok (.istore_n 3, 1) := by decide +kernel
theorem dX6_runAll_34 : decode cX6_runAll 34 = .ok (.aload_n 0, 1) := by decide +kernel
theorem dX6_runAll_35 : decode cX6_runAll 35 = .ok (.getfield 77, 3) := by decide +kernel
theorem dX6_runAll_38 : decode cX6_runAll 38 = .ok (.aload_n 0, 1) := by decide +kernel
theorem dX6_runAll_39 : decode cX6_runAll 39 = .ok (.getfield 86, 3) := by decide +kernel
theorem dX6_runAll_42 : decode cX6_runAll 42 = .ok (.iload_n 2, 1) := by decide +kernel
theorem dX6_runAll_43 : decode cX6_runAll 43 = .ok (.iaload, 1) := by decide +kernel
theorem dX6_runAll_44 : decode cX6_runAll 44 = .ok (.iaload, 1) := by decide +kernel
theorem dX6_runAll_45 : decode cX6_runAll 45 = .ok (.istore 4, 2) := by decide +kernel
theorem dX6_runAll_47 : decode cX6_runAll 47 = .ok (.aload_n 0, 1) := by decide +kernel
theorem dX6_runAll_48 : decode cX6_runAll 48 = .ok (.getfield 59, 3) := by decide +kernel
theorem dX6_runAll_51 : decode cX6_runAll 51 = .ok (.iload_n 3, 1) := by decide +kernel
theorem dX6_runAll_52 : decode cX6_runAll 52 = .ok (.iaload, 1) := by decide +kernel
theorem dX6_runAll_53 : decode cX6_runAll 53 = .ok (.iconst (-1), 1) := by decide +kernel
theorem dX6_runAll_54 : decode cX6_runAll 54 = .ok (.if_icmp .ne 24, 3) := by decide +kernel
theorem dX6_runAll_57 : decode cX6_runAll 57 = .ok (.aload_n 0, 1) := by decide +kernel
theorem dX6_runAll_58 : decode cX6_runAll 58 = .ok (.iload 4, 2) := by decide +kernel
theorem dX6_runAll_60 : decode cX6_runAll 60 = .ok (.iload_n 3, 1) := by decide +kernel
theorem dX6_runAll_61 : decode cX6_runAll 61 = .ok (.invokevirtual 134, 3) := by decide +kernel
theorem dX6_runAll_64 : decode cX6_runAll 64 = .ok (.ifCond .eq 14, 3) := by decide +kernel
theorem dX6_runAll_67 : decode cX6_runAll 67 = .ok (.aload_n 0, 1) := by decide +kernel
theorem dX6_runAll_68 : decode cX6_runAll 68 = .ok (.iload_n 3, 1) := by decide +kernel
theorem dX6_runAll_69 : decode cX6_runAll 69 = .ok (.iload 4, 2) := by decide +kernel
theorem dX6_runAll_71 : decode cX6_runAll 71 = .ok (.invokevirtual 154, 3) := by decide +kernel
theorem dX6_runAll_74 : decode cX6_runAll 74 = .ok (.pop, 1) := by decide +kernel
theorem dX6_runAll_75 : decode cX6_runAll 75 = .ok (.iinc 1 1, 3) := by decide +kernel
theorem dX6_runAll_78 : decode cX6_runAll 78 = .ok (.iinc 2 1, 3) := by decide +kernel
theorem dX6_runAll_81 : decode cX6_runAll 81 = .ok (.goto (-67), 3) := by decide +kernel
theorem dX6_runAll_84 : decode cX6_runAll 84 = .ok (.aload_n 0, 1) := by decide +kernel
theorem dX6_runAll_85 : decode cX6_runAll 85 = .ok (.iconst 0, 1) := by decide +kernel
theorem dX6_runAll_86 : decode cX6_runAll 86 = .ok (.putfield 157, 3) := by decide +kernel
theorem dX6_runAll_89 : decode cX6_runAll 89 = .ok (.iload_n 1, 1) := by decide +kernel
theorem dX6_runAll_90 : decode cX6_runAll 90 = .ok (.ireturn, 1) := by decide +kernel
theorem dX6_slits_0 : decode cX6_slits 0 = .ok (.aload_n 0, 1) := by decide +kernel
theorem dX6_slits_1 : decode cX6_slits 1 = .ok (.aload_n 0, 1) := by decide +kernel
theorem dX6_slits_2 : decode cX6_slits 2 = .ok (.iload_n 1, 1) := by decide +kernel
theorem dX6_slits_3 : decode cX6_slits 3 = .ok (.invokevirtual 106, 3) := by decide +kernel
theorem dX6_slits_6 : decode cX6_slits 6 = .ok (.invokevirtual 117, 3) := by decide +kernel
theorem dX6_slits_9 : decode cX6_slits 9 = .ok (.ifCond .eq 31, 3) := by decide +kernel
theorem dX6_slits_12 : decode cX6_slits 12 = .ok (.aload_n 0, 1) := by decide +kernel
theorem dX6_slits_13 : decode cX6_slits 13 = .ok (.getfield 59, 3) := by decide +kernel
theorem dX6_slits_16 : decode cX6_slits 16 = .ok (.iload_n 1, 1) := by decide +kernel
theorem dX6_slits_17 : decode cX6_slits 17 = .ok (.iaload, 1) := by decide +kernel
theorem dX6_slits_18 : decode cX6_slits 18 = .ok (.iconst (-1), 1) := by decide +kernel
theorem dX6_slits_19 : decode cX6_slits 19 = .ok (.if_icmp .ne 7, 3) := by decide +kernel
theorem dX6_slits_22 : decode cX6_slits 22 = .ok (.iconst (-1), 1) := by decide +kernel
theorem dX6_slits_23 : decode cX6_slits 23 = .ok (.goto 18, 3) := by decide +kernel
theorem dX6_slits_26 : decode cX6_slits 26 = .ok (.aload_n 0, 1) := by decide +kernel
theorem dX6_slits_27 : decode cX6_slits 27 = .ok (.getfield 56, 3) := by decide +kernel
theorem dX6_slits_30 : decode cX6_slits 30 = .ok (.aload_n 0, 1) := by decide +kernel
theorem dX6_slits_31 : decode cX6_slits 31 = .ok (.getfield 59, 3) := by decide +kernel
theorem dX6_slits_34 : decode cX6_slits 34 = .ok (.iload_n 1, 1) := by decide +kernel
theorem dX6_slits_35 : decode cX6_slits 35 = .ok (.iaload, 1) := by decide +kernel
theorem dX6_slits_36 : decode cX6_slits 36 = .ok (.iaload, 1) := by decide +kernel
theorem dX6_slits_37 : decode cX6_slits 37 = .ok (.goto 4, 3) := by decide +kernel
theorem dX6_slits_40 : decode cX6_slits 40 = .ok (.iconst 0, 1) := by decide +kernel
theorem dX6_slits_41 : decode cX6_slits 41 = .ok (.ireturn, 1) := by decide +kernel
theorem dX6_isSlit_0 : decode cX6_isSlit 0 = .ok (.aload_n 0, 1) := by decide +kernel
theorem dX6_isSlit_1 : decode cX6_isSlit 1 = .ok (.iload_n 1, 1) := by decide +kernel
theorem dX6_isSlit_2 : decode cX6_isSlit 2 = .ok (.invokevirtual 106, 3) := by decide +kernel
theorem dX6_isSlit_5 : decode cX6_isSlit 5 = .ok (.istore_n 3, 1) := by decide +kernel
theorem dX6_isSlit_6 : decode cX6_isSlit 6 = .ok (.aload_n 0, 1) := by decide +kernel
theorem dX6_isSlit_7 : decode cX6_isSlit 7 = .ok (.iload_n 3, 1) := by decide +kernel
theorem dX6_isSlit_8 : decode cX6_isSlit 8 = .ok (.ifCond .eq 38, 3) := by decide +kernel
theorem dX6_isSlit_11 : decode cX6_isSlit 11 = .ok (.aload_n 0, 1) := by decide +kernel
theorem dX6_isSlit_12 : decode cX6_isSlit 12 = .ok (.getfield 59, 3) := by decide +kernel
theorem dX6_isSlit_15 : decode cX6_isSlit 15 = .ok (.iload_n 1, 1) := by decide +kernel
theorem dX6_isSlit_16 : decode cX6_isSlit 16 = .ok (.iaload, 1) := by decide +kernel
theorem dX6_isSlit_17 : decode cX6_isSlit 17 = .ok (.iconst (-1), 1) := by decide +kernel
theorem dX6_isSlit_18 : decode cX6_isSlit 18 = .ok (.if_icmp .eq 28, 3) := by decide +kernel
theorem dX6_isSlit_21 : decode cX6_isSlit 21 = .ok (.iload_n 2, 1) := by decide +kernel
theorem dX6_isSlit_22 : decode cX6_isSlit 22 = .ok (.iconst 0, 1) := by decide +kernel
theorem dX6_isSlit_23 : decode cX6_isSlit 23 = .ok (.aload_n 0, 1) := by decide +kernel
theorem dX6_isSlit_24 : decode cX6_isSlit 24 = .ok (.getfield 56, 3) := by decide +kernel
theorem dX6_isSlit_27 : decode cX6_isSlit 27 = .ok (.aload_n 0, 1) := by decide +kernel
theorem dX6_isSlit_28 : decode cX6_isSlit 28 = .ok (.getfield 59, 3) := by decide +kernel
theorem dX6_isSlit_31 : decode cX6_isSlit 31 = .ok (.iload_n 1, 1) := by decide +kernel
theorem dX6_isSlit_32 : decode cX6_isSlit 32 = .ok (.iaload, 1) := by decide +kernel
theorem dX6_isSlit_33 : decode cX6_isSlit 33 = .ok (.iaload, 1) := by decide +kernel
theorem dX6_isSlit_34 : decode cX6_isSlit 34 = .ok (.iconst 1, 1) := by decide +kernel
theorem dX6_isSlit_35 : decode cX6_isSlit 35 = .ok (.isub, 1) := by decide +kernel
theorem dX6_isSlit_36 : decode cX6_isSlit 36 = .ok (.invokestatic 95, 3) := by decide +kernel
theorem dX6_isSlit_39 : decode cX6_isSlit 39 = .ok (.ifCond .eq 7, 3) := by decide +kernel
theorem dX6_isSlit_42 : decode cX6_isSlit 42 = .ok (.iconst 1, 1) := by decide +kernel
theorem dX6_isSlit_43 : decode cX6_isSlit 43 = .ok (.goto 4, 3) := by decide +kernel
theorem dX6_isSlit_46 : decode cX6_isSlit 46 = .ok (.iconst 0, 1) := by decide +kernel
theorem dX6_isSlit_47 : decode cX6_isSlit 47 = .ok (.invokevirtual 117, 3) := by decide +kernel
theorem dX6_isSlit_50 : decode cX6_isSlit 50 = .ok (.ireturn, 1) := by decide +kernel
theorem dX6_slitWeight_0 : decode cX6_slitWeight 0 = .ok (.aload_n 0, 1) := by decide +kernel
theorem dX6_slitWeight_1 : decode cX6_slitWeight 1 = .ok (.iload_n 1, 1) := by decide +kernel
theorem dX6_slitWeight_2 : decode cX6_slitWeight 2 = .ok (.iload_n 2, 1) := by decide +kernel
theorem dX6_slitWeight_3 : decode cX6_slitWeight 3 = .ok (.invokevirtual 167, 3) := by decide +kernel
theorem dX6_slitWeight_6 : decode cX6_slitWeight 6 = .ok (.ifCond .eq 17, 3) := by decide +kernel
theorem dX6_slitWeight_9 : decode cX6_slitWeight 9 = .ok (.aload_n 0, 1) := by decide +kernel
theorem dX6_slitWeight_10 : decode cX6_slitWeight 10 = .ok (.getfield 62, 3) := by decide +kernel
theorem dX6_slitWeight_13 : decode cX6_slitWeight 13 = .ok (.bipush 15, 2) := by decide +kernel
theorem dX6_slitWeight_15 : decode cX6_slitWeight 15 = .ok (.iload_n 1, 1) := by decide +kernel
theorem dX6_slitWeight_16 : decode cX6_slitWeight 16 = .ok (.imul, 1) := by decide +kernel
theorem dX6_slitWeight_17 : decode cX6_slitWeight 17 = .ok (.iload_n 2, 1) := by decide +kernel
theorem dX6_slitWeight_18 : decode cX6_slitWeight 18 = .ok (.iadd, 1) := by decide +kernel
theorem dX6_slitWeight_19 : decode cX6_slitWeight 19 = .ok (.iaload, 1) := by decide +kernel
theorem dX6_slitWeight_20 : decode cX6_slitWeight 20 = .ok (.goto 4, 3) := by decide +kernel
theorem dX6_slitWeight_23 : decode cX6_slitWeight 23 = .ok (.iconst 0, 1) := by decide +kernel
theorem dX6_slitWeight_24 : decode cX6_slitWeight 24 = .ok (.ireturn, 1) := by decide +kernel
theorem dX6_slitOrder_0 : decode cX6_slitOrder 0 = .ok (.aload_n 0, 1) := by decide +kernel
theorem dX6_slitOrder_1 : decode cX6_slitOrder 1 = .ok (.iload_n 1, 1) := by decide +kernel
theorem dX6_slitOrder_2 : decode cX6_slitOrder 2 = .ok (.iload_n 2, 1) := by decide +kernel
theorem dX6_slitOrder_3 : decode cX6_slitOrder 3 = .ok (.invokevirtual 167, 3) := by decide +kernel
theorem dX6_slitOrder_6 : decode cX6_slitOrder 6 = .ok (.ifCond .eq 17, 3) := by decide +kernel
theorem dX6_slitOrder_9 : decode cX6_slitOrder 9 = .ok (.aload_n 0, 1) := by decide +kernel
theorem dX6_slitOrder_10 : decode cX6_slitOrder 10 = .ok (.getfield 65, 3) := by decide +kernel
theorem dX6_slitOrder_13 : decode cX6_slitOrder 13 = .ok (.bipush 15, 2) := by decide +kernel
theorem dX6_slitOrder_15 : decode cX6_slitOrder 15 = .ok (.iload_n 1, 1) := by decide +kernel
theorem dX6_slitOrder_16 : decode cX6_slitOrder 16 = .ok (.imul, 1) := by decide +kernel
theorem dX6_slitOrder_17 : decode cX6_slitOrder 17 = .ok (.iload_n 2, 1) := by decide +kernel
theorem dX6_slitOrder_18 : decode cX6_slitOrder 18 = .ok (.iadd, 1) := by decide +kernel
theorem dX6_slitOrder_19 : decode cX6_slitOrder 19 = .ok (.iaload, 1) := by decide +kernel
theorem dX6_slitOrder_20 : decode cX6_slitOrder 20 = .ok (.goto 4, 3) := by decide +kernel
theorem dX6_slitOrder_23 : decode cX6_slitOrder 23 = .ok (.iconst 0, 1) := by decide +kernel
theorem dX6_slitOrder_24 : decode cX6_slitOrder 24 = .ok (.ireturn, 1) := by decide +kernel
theorem dX6_lost_0 : decode cX6_lost 0 = .ok (.aload_n 0, 1) := by decide +kernel
theorem dX6_lost_1 : decode cX6_lost 1 = .ok (.aload_n 0, 1) := by decide +kernel
theorem dX6_lost_2 : decode cX6_lost 2 = .ok (.iload_n 1, 1) := by decide +kernel
theorem dX6_lost_3 : decode cX6_lost 3 = .ok (.invokevirtual 106, 3) := by decide +kernel
theorem dX6_lost_6 : decode cX6_lost 6 = .ok (.iload_n 2, 1) := by decide +kernel
theorem dX6_lost_7 : decode cX6_lost 7 = .ok (.iconst 0, 1) := by decide +kernel
theorem dX6_lost_8 : decode cX6_lost 8 = .ok (.iconst 2, 1) := by decide +kernel
theorem dX6_lost_9 : decode cX6_lost 9 = .ok (.invokestatic 95, 3) := by decide +kernel
theorem dX6_lost_12 : decode cX6_lost 12 = .ok (.invokevirtual 102, 3) := by decide +kernel
theorem dX6_lost_15 : decode cX6_lost 15 = .ok (.ifCond .eq 16, 3) := by decide +kernel
theorem dX6_lost_18 : decode cX6_lost 18 = .ok (.aload_n 0, 1) := by decide +kernel
theorem dX6_lost_19 : decode cX6_lost 19 = .ok (.getfield 68, 3) := by decide +kernel
theorem dX6_lost_22 : decode cX6_lost 22 = .ok (.iconst 3, 1) := by decide +kernel
theorem dX6_lost_23 : decode cX6_lost 23 = .ok (.iload_n 1, 1) := by decide +kernel
theorem dX6_lost_24 : decode cX6_lost 24 = .ok (.imul, 1) := by decide +kernel
theorem dX6_lost_25 : decode cX6_lost 25 = .ok (.iload_n 2, 1) := by decide +kernel
theorem dX6_lost_26 : decode cX6_lost 26 = .ok (.iadd, 1) := by decide +kernel
theorem dX6_lost_27 : decode cX6_lost 27 = .ok (.iaload, 1) := by decide +kernel
theorem dX6_lost_28 : decode cX6_lost 28 = .ok (.goto 4, 3) := by decide +kernel
theorem dX6_lost_31 : decode cX6_lost 31 = .ok (.iconst 0, 1) := by decide +kernel
theorem dX6_lost_32 : decode cX6_lost 32 = .ok (.ireturn, 1) := by decide +kernel
theorem dX6_isOrder_0 : decode cX6_isOrder 0 = .ok (.aload_n 0, 1) := by decide +kernel
theorem dX6_isOrder_1 : decode cX6_isOrder 1 = .ok (.iload_n 1, 1) := by decide +kernel
theorem dX6_isOrder_2 : decode cX6_isOrder 2 = .ok (.iconst 0, 1) := by decide +kernel
theorem dX6_isOrder_3 : decode cX6_isOrder 3 = .ok (.aload_n 0, 1) := by decide +kernel
theorem dX6_isOrder_4 : decode cX6_isOrder 4 = .ok (.getfield 121, 3) := by decide +kernel
theorem dX6_isOrder_7 : decode cX6_isOrder 7 = .ok (.iconst 1, 1) := by decide +kernel
theorem dX6_isOrder_8 : decode cX6_isOrder 8 = .ok (.isub, 1) := by decide +kernel
theorem dX6_isOrder_9 : decode cX6_isOrder 9 = .ok (.invokestatic 95, 3) := by decide +kernel
theorem dX6_isOrder_12 : decode cX6_isOrder 12 = .ok (.invokevirtual 117, 3) := by decide +kernel
theorem dX6_isOrder_15 : decode cX6_isOrder 15 = .ok (.ireturn, 1) := by decide +kernel
theorem dX6_delivered_0 : decode cX6_delivered 0 = .ok (.aload_n 0, 1) := by decide +kernel
theorem dX6_delivered_1 : decode cX6_delivered 1 = .ok (.iload_n 1, 1) := by decide +kernel
theorem dX6_delivered_2 : decode cX6_delivered 2 = .ok (.invokevirtual 170, 3) := by decide +kernel
theorem dX6_delivered_5 : decode cX6_delivered 5 = .ok (.ifCond .eq 12, 3) := by decide +kernel
theorem dX6_delivered_8 : decode cX6_delivered 8 = .ok (.aload_n 0, 1) := by decide +kernel
theorem dX6_delivered_9 : decode cX6_delivered 9 = .ok (.getfield 47, 3) := by decide +kernel
theorem dX6_delivered_12 : decode cX6_delivered 12 = .ok (.iload_n 1, 1) := by decide +kernel
theorem dX6_delivered_13 : decode cX6_delivered 13 = .ok (.iaload, 1) := by decide +kernel
theorem dX6_delivered_14 : decode cX6_delivered 14 = .ok (.goto 4, 3) := by decide +kernel
theorem dX6_delivered_17 : decode cX6_delivered 17 = .ok (.iconst 0, 1) := by decide +kernel
theorem dX6_delivered_18 : decode cX6_delivered 18 = .ok (.ireturn, 1) := by decide +kernel
theorem dX6_heatOf_0 : decode cX6_heatOf 0 = .ok (.aload_n 0, 1) := by decide +kernel
theorem dX6_heatOf_1 : decode cX6_heatOf 1 = .ok (.iload_n 1, 1) := by decide +kernel
theorem dX6_heatOf_2 : decode cX6_heatOf 2 = .ok (.invokevirtual 170, 3) := by decide +kernel
theorem dX6_heatOf_5 : decode cX6_heatOf 5 = .ok (.ifCond .eq 12, 3) := by decide +kernel
theorem dX6_heatOf_8 : decode cX6_heatOf 8 = .ok (.aload_n 0, 1) := by decide +kernel
theorem dX6_heatOf_9 : decode cX6_heatOf 9 = .ok (.getfield 50, 3) := by decide +kernel
theorem dX6_heatOf_12 : decode cX6_heatOf 12 = .ok (.iload_n 1, 1) := by decide +kernel
theorem dX6_heatOf_13 : decode cX6_heatOf 13 = .ok (.iaload, 1) := by decide +kernel
theorem dX6_heatOf_14 : decode cX6_heatOf 14 = .ok (.goto 4, 3) := by decide +kernel
theorem dX6_heatOf_17 : decode cX6_heatOf 17 = .ok (.iconst 0, 1) := by decide +kernel
theorem dX6_heatOf_18 : decode cX6_heatOf 18 = .ok (.ireturn, 1) := by decide +kernel
theorem dX6_stock_0 : decode cX6_stock 0 = .ok (.iconst 0, 1) := by decide +kernel
theorem dX6_stock_1 : decode cX6_stock 1 = .ok (.istore_n 2, 1) := by decide +kernel
theorem dX6_stock_2 : decode cX6_stock 2 = .ok (.iconst 0, 1) := by decide +kernel
theorem dX6_stock_3 : decode cX6_stock 3 = .ok (.istore_n 3, 1) := by decide +kernel
theorem dX6_stock_4 : decode cX6_stock 4 = .ok (.iload_n 3, 1) := by decide +kernel
theorem dX6_stock_5 : decode cX6_stock 5 = .ok (.aload_n 0, 1) := by decide +kernel
theorem dX6_stock_6 : decode cX6_stock 6 = .ok (.getfield 92, 3) := by decide +kernel
theorem dX6_stock_9 : decode cX6_stock 9 = .ok (.if_icmp .ge 112, 3) := by decide +kernel
theorem dX6_stock_12 : decode cX6_stock 12 = .ok (.iconst 0, 1) := by decide +kernel
theorem dX6_stock_13 : decode cX6_stock 13 = .ok (.istore 4, 2) := by decide +kernel
theorem dX6_stock_15 : decode cX6_stock 15 = .ok (.aload_n 0, 1) := by decide +kernel
theorem dX6_stock_16 : decode cX6_stock 16 = .ok (.getfield 59, 3) := by decide +kernel
theorem dX6_stock_19 : decode cX6_stock 19 = .ok (.iload_n 3, 1) := by decide +kernel
theorem dX6_stock_20 : decode cX6_stock 20 = .ok (.iaload, 1) := by decide +kernel
theorem dX6_stock_21 : decode cX6_stock 21 = .ok (.iconst (-1), 1) := by decide +kernel
theorem dX6_stock_22 : decode cX6_stock 22 = .ok (.if_icmp .eq 93, 3) := by decide +kernel
theorem dX6_stock_25 : decode cX6_stock 25 = .ok (.iload 4, 2) := by decide +kernel
theorem dX6_stock_27 : decode cX6_stock 27 = .ok (.aload_n 0, 1) := by decide +kernel
theorem dX6_stock_28 : decode cX6_stock 28 = .ok (.getfield 56, 3) := by decide +kernel
theorem dX6_stock_31 : decode cX6_stock 31 = .ok (.aload_n 0, 1) := by decide +kernel
theorem dX6_stock_32 : decode cX6_stock 32 = .ok (.getfield 59, 3) := by decide +kernel
theorem dX6_stock_35 : decode cX6_stock 35 = .ok (.iload_n 3, 1) := by decide +kernel
theorem dX6_stock_36 : decode cX6_stock 36 = .ok (.iaload, 1) := by decide +kernel
theorem dX6_stock_37 : decode cX6_stock 37 = .ok (.iaload, 1) := by decide +kernel
theorem dX6_stock_38 : decode cX6_stock 38 = .ok (.if_icmp .ge 77, 3) := by decide +kernel
theorem dX6_stock_41 : decode cX6_stock 41 = .ok (.aload_n 0, 1) := by decide +kernel
theorem dX6_stock_42 : decode cX6_stock 42 = .ok (.getfield 65, 3) := by decide +kernel
theorem dX6_stock_45 : decode cX6_stock 45 = .ok (.bipush 15, 2) := by decide +kernel
theorem dX6_stock_47 : decode cX6_stock 47 = .ok (.iload_n 3, 1) := by decide +kernel
theorem dX6_stock_48 : decode cX6_stock 48 = .ok (.imul, 1) := by decide +kernel
theorem dX6_stock_49 : decode cX6_stock 49 = .ok (.iload 4, 2) := by decide +kernel
theorem dX6_stock_51 : decode cX6_stock 51 = .ok (.iadd, 1) := by decide +kernel
theorem dX6_stock_52 : decode cX6_stock 52 = .ok (.iaload, 1) := by decide +kernel
theorem dX6_stock_53 : decode cX6_stock 53 = .ok (.iconst (-1), 1) := by decide +kernel
theorem dX6_stock_54 : decode cX6_stock 54 = .ok (.if_icmp .ne 28, 3) := by decide +kernel
theorem dX6_stock_57 : decode cX6_stock 57 = .ok (.aload_n 0, 1) := by decide +kernel
theorem dX6_stock_58 : decode cX6_stock 58 = .ok (.getfield 53, 3) := by decide +kernel
theorem dX6_stock_61 : decode cX6_stock 61 = .ok (.bipush 15, 2) := by decide +kernel
theorem dX6_stock_63 : decode cX6_stock 63 = .ok (.aload_n 0, 1) := by decide +kernel
theorem dX6_stock_64 : decode cX6_stock 64 = .ok (.getfield 59, 3) := by decide +kernel
theorem dX6_stock_67 : decode cX6_stock 67 = .ok (.iload_n 3, 1) := by decide +kernel
theorem dX6_stock_68 : decode cX6_stock 68 = .ok (.iaload, 1) := by decide +kernel
theorem dX6_stock_69 : decode cX6_stock 69 = .ok (.imul, 1) := by decide +kernel
theorem dX6_stock_70 : decode cX6_stock 70 = .ok (.iload 4, 2) := by decide +kernel
theorem dX6_stock_72 : decode cX6_stock 72 = .ok (.iadd, 1) := by decide +kernel
theorem dX6_stock_73 : decode cX6_stock 73 = .ok (.iaload, 1) := by decide +kernel
theorem dX6_stock_74 : decode cX6_stock 74 = .ok (.iload_n 1, 1) := by decide +kernel
theorem dX6_stock_75 : decode cX6_stock 75 = .ok (.if_icmp .ne 7, 3) := by decide +kernel
theorem dX6_stock_78 : decode cX6_stock 78 = .ok (.iconst 1, 1) := by decide +kernel
theorem dX6_stock_79 : decode cX6_stock 79 = .ok (.goto 4, 3) := by decide +kernel
theorem dX6_stock_82 : decode cX6_stock 82 = .ok (.iconst 0, 1) := by decide +kernel
theorem dX6_stock_83 : decode cX6_stock 83 = .ok (.istore 5, 2) := by decide +kernel
theorem dX6_stock_85 : decode cX6_stock 85 = .ok (.iload_n 2, 1) := by decide +kernel
theorem dX6_stock_86 : decode cX6_stock 86 = .ok (.iload 5, 2) := by decide +kernel
theorem dX6_stock_88 : decode cX6_stock 88 = .ok (.ifCond .eq 18, 3) := by decide +kernel
theorem dX6_stock_91 : decode cX6_stock 91 = .ok (.aload_n 0, 1) := by decide +kernel
theorem dX6_stock_92 : decode cX6_stock 92 = .ok (.getfield 62, 3) := by decide +kernel
theorem dX6_stock_95 : decode cX6_stock 95 = .ok (.bipush 15, 2) := by decide +kernel
theorem dX6_stock_97 : decode cX6_stock 97 = .ok (.iload_n 3, 1) := by decide +kernel
theorem dX6_stock_98 : decode cX6_stock 98 = .ok (.imul, 1) := by decide +kernel
theorem dX6_stock_99 : decode cX6_stock 99 = .ok (.iload 4, 2) := by decide +kernel
theorem dX6_stock_101 : decode cX6_stock 101 = .ok (.iadd, 1) := by decide +kernel
theorem dX6_stock_102 : decode cX6_stock 102 = .ok (.iaload, 1) := by decide +kernel
theorem dX6_stock_103 : decode cX6_stock 103 = .ok (.goto 4, 3) := by decide +kernel
theorem dX6_stock_106 : decode cX6_stock 106 = .ok (.iconst 0, 1) := by decide +kernel
theorem dX6_stock_107 : decode cX6_stock 107 = .ok (.iadd, 1) := by decide +kernel
theorem dX6_stock_108 : decode cX6_stock 108 = .ok (.istore_n 2, 1) := by decide +kernel
theorem dX6_stock_109 : decode cX6_stock 109 = .ok (.iinc 4 1, 3) := by decide +kernel
theorem dX6_stock_112 : decode cX6_stock 112 = .ok (.goto (-97), 3) := by decide +kernel
theorem dX6_stock_115 : decode cX6_stock 115 = .ok (.iinc 3 1, 3) := by decide +kernel
theorem dX6_stock_118 : decode cX6_stock 118 = .ok (.goto (-114), 3) := by decide +kernel
theorem dX6_stock_121 : decode cX6_stock 121 = .ok (.aload_n 0, 1) := by decide +kernel
theorem dX6_stock_122 : decode cX6_stock 122 = .ok (.iload_n 2, 1) := by decide +kernel
theorem dX6_stock_123 : decode cX6_stock 123 = .ok (.invokevirtual 128, 3) := by decide +kernel
theorem dX6_stock_126 : decode cX6_stock 126 = .ok (.ireturn, 1) := by decide +kernel
theorem dJ9_max_7cf53_0 : decode cJ9_max_7cf53 0 = .ok (.iload_n 0, 1) := by decide +kernel
theorem dJ9_max_7cf53_1 : decode cJ9_max_7cf53 1 = .ok (.iload_n 1, 1) := by decide +kernel
theorem dJ9_max_7cf53_2 : decode cJ9_max_7cf53 2 = .ok (.if_icmp .lt 7, 3) := by decide +kernel
theorem dJ9_max_7cf53_5 : decode cJ9_max_7cf53 5 = .ok (.iload_n 0, 1) := by decide +kernel
theorem dJ9_max_7cf53_6 : decode cJ9_max_7cf53 6 = .ok (.goto 4, 3) := by decide +kernel
theorem dJ9_max_7cf53_9 : decode cJ9_max_7cf53 9 = .ok (.iload_n 1, 1) := by decide +kernel
theorem dJ9_max_7cf53_10 : decode cJ9_max_7cf53 10 = .ok (.ireturn, 1) := by decide +kernel
theorem dJ9_min_7cf53_0 : decode cJ9_min_7cf53 0 = .ok (.iload_n 0, 1) := by decide +kernel
theorem dJ9_min_7cf53_1 : decode cJ9_min_7cf53 1 = .ok (.iload_n 1, 1) := by decide +kernel
theorem dJ9_min_7cf53_2 : decode cJ9_min_7cf53 2 = .ok (.if_icmp .gt 7, 3) := by decide +kernel
theorem dJ9_min_7cf53_5 : decode cJ9_min_7cf53 5 = .ok (.iload_n 0, 1) := by decide +kernel
theorem dJ9_min_7cf53_6 : decode cJ9_min_7cf53 6 = .ok (.goto 4, 3) := by decide +kernel
theorem dJ9_min_7cf53_9 : decode cJ9_min_7cf53 9 = .ok (.iload_n 1, 1) := by decide +kernel
theorem dJ9_min_7cf53_10 : decode cJ9_min_7cf53 10 = .ok (.ireturn, 1) := by decide +kernel
theorem dL_coil_0 : decode cL_coil 0 = .ok (.aload 5, 2) := by decide +kernel
theorem dL_coil_2 : decode cL_coil 2 = .ok (.iconst 0, 1) := by decide +kernel
theorem dL_coil_3 : decode cL_coil 3 = .ok (.aload_n 0, 1) := by decide +kernel
theorem dL_coil_4 : decode cL_coil 4 = .ok (.iload_n 1, 1) := by decide +kernel
theorem dL_coil_5 : decode cL_coil 5 = .ok (.iload_n 2, 1) := by decide +kernel
theorem dL_coil_6 : decode cL_coil 6 = .ok (.iload_n 3, 1) := by decide +kernel
theorem dL_coil_7 : decode cL_coil 7 = .ok (.iload 4, 2) := by decide +kernel
theorem dL_coil_9 : decode cL_coil 9 = .ok (.invokevirtual 7, 3) := by decide +kernel
theorem dL_coil_12 : decode cL_coil 12 = .ok (.i2l, 1) := by decide +kernel
theorem dL_coil_13 : decode cL_coil 13 = .ok (.lastore, 1) := by decide +kernel
theorem dL_coil_14 : decode cL_coil 14 = .ok (.goto 11, 3) := by decide +kernel
theorem dL_coil_17 : decode cL_coil 17 = .ok (.astore 6, 2) := by decide +kernel
theorem dL_coil_19 : decode cL_coil 19 = .ok (.iconst 1, 1) := by decide +kernel
theorem dL_coil_20 : decode cL_coil 20 = .ok (.ireturn, 1) := by decide +kernel
theorem dL_coil_21 : decode cL_coil 21 = .ok (.astore 6, 2) := by decide +kernel
theorem dL_coil_23 : decode cL_coil 23 = .ok (.iconst 2, 1) := by decide +kernel
theorem dL_coil_24 : decode cL_coil 24 = .ok (.ireturn, 1) := by decide +kernel
theorem dL_coil_25 : decode cL_coil 25 = .ok (.iconst 0, 1) := by decide +kernel
theorem dL_coil_26 : decode cL_coil 26 = .ok (.ireturn, 1) := by decide +kernel
theorem dL_defect_0 : decode cL_defect 0 = .ok (.aload 4, 2) := by decide +kernel
theorem dL_defect_2 : decode cL_defect 2 = .ok (.iconst 0, 1) := by decide +kernel
theorem dL_defect_3 : decode cL_defect 3 = .ok (.aload_n 0, 1) := by decide +kernel
theorem dL_defect_4 : decode cL_defect 4 = .ok (.iload_n 1, 1) := by decide +kernel
theorem dL_defect_5 : decode cL_defect 5 = .ok (.iload_n 2, 1) := by decide +kernel
theorem dL_defect_6 : decode cL_defect 6 = .ok (.iload_n 3, 1) := by decide +kernel
theorem dL_defect_7 : decode cL_defect 7 = .ok (.invokevirtual 17, 3) := by decide +kernel
theorem dL_defect_10 : decode cL_defect 10 = .ok (.i2l, 1) := by decide +kernel
theorem dL_defect_11 : decode cL_defect 11 = .ok (.lastore, 1) := by decide +kernel
theorem dL_defect_12 : decode cL_defect 12 = .ok (.goto 15, 3) := by decide +kernel
theorem dL_defect_15 : decode cL_defect 15 = .ok (.astore 5, 2) := by decide +kernel
theorem dL_defect_17 : decode cL_defect 17 = .ok (.iconst 1, 1) := by decide +kernel
theorem dL_defect_18 : decode cL_defect 18 = .ok (.ireturn, 1) := by decide +kernel
theorem dL_defect_19 : decode cL_defect 19 = .ok (.astore 5, 2) := by decide +kernel
theorem dL_defect_21 : decode cL_defect 21 = .ok (.iconst 2, 1) := by decide +kernel
theorem dL_defect_22 : decode cL_defect 22 = .ok (.ireturn, 1) := by decide +kernel
theorem dL_defect_23 : decode cL_defect 23 = .ok (.astore 5, 2) := by decide +kernel
theorem dL_defect_25 : decode cL_defect 25 = .ok (.iconst 3, 1) := by decide +kernel
theorem dL_defect_26 : decode cL_defect 26 = .ok (.ireturn, 1) := by decide +kernel
theorem dL_defect_27 : decode cL_defect 27 = .ok (.iconst 0, 1) := by decide +kernel
theorem dL_defect_28 : decode cL_defect 28 = .ok (.ireturn, 1) := by decide +kernel
theorem dL_setRules_0 : decode cL_setRules 0 = .ok (.aload 4, 2) := by decide +kernel
theorem dL_setRules_2 : decode cL_setRules 2 = .ok (.iconst 0, 1) := by decide +kernel
theorem dL_setRules_3 : decode cL_setRules 3 = .ok (.aload_n 0, 1) := by decide +kernel
theorem dL_setRules_4 : decode cL_setRules 4 = .ok (.iload_n 1, 1) := by decide +kernel
theorem dL_setRules_5 : decode cL_setRules 5 = .ok (.iload_n 2, 1) := by decide +kernel
theorem dL_setRules_6 : decode cL_setRules 6 = .ok (.iload_n 3, 1) := by decide +kernel
theorem dL_setRules_7 : decode cL_setRules 7 = .ok (.invokevirtual 23, 3) := by decide +kernel
theorem dL_setRules_10 : decode cL_setRules 10 = .ok (.i2l, 1) := by decide +kernel
theorem dL_setRules_11 : decode cL_setRules 11 = .ok (.lastore, 1) := by decide +kernel
theorem dL_setRules_12 : decode cL_setRules 12 = .ok (.goto 7, 3) := by decide +kernel
theorem dL_setRules_15 : decode cL_setRules 15 = .ok (.astore 5, 2) := by decide +kernel
theorem dL_setRules_17 : decode cL_setRules 17 = .ok (.iconst 1, 1) := by decide +kernel
theorem dL_setRules_18 : decode cL_setRules 18 = .ok (.ireturn, 1) := by decide +kernel
theorem dL_setRules_19 : decode cL_setRules 19 = .ok (.iconst 0, 1) := by decide +kernel
theorem dL_setRules_20 : decode cL_setRules 20 = .ok (.ireturn, 1) := by decide +kernel
theorem dL_order_0 : decode cL_order 0 = .ok (.aload_n 3, 1) := by decide +kernel
theorem dL_order_1 : decode cL_order 1 = .ok (.iconst 0, 1) := by decide +kernel
theorem dL_order_2 : decode cL_order 2 = .ok (.aload_n 0, 1) := by decide +kernel
theorem dL_order_3 : decode cL_order 3 = .ok (.iload_n 1, 1) := by decide +kernel
theorem dL_order_4 : decode cL_order 4 = .ok (.iload_n 2, 1) := by decide +kernel
theorem dL_order_5 : decode cL_order 5 = .ok (.invokevirtual 26, 3) := by decide +kernel
theorem dL_order_8 : decode cL_order 8 = .ok (.i2l, 1) := by decide +kernel
theorem dL_order_9 : decode cL_order 9 = .ok (.lastore, 1) := by decide +kernel
theorem dL_order_10 : decode cL_order 10 = .ok (.goto 11, 3) := by decide +kernel
theorem dL_order_13 : decode cL_order 13 = .ok (.astore 4, 2) := by decide +kernel
theorem dL_order_15 : decode cL_order 15 = .ok (.iconst 1, 1) := by decide +kernel
theorem dL_order_16 : decode cL_order 16 = .ok (.ireturn, 1) := by decide +kernel
theorem dL_order_17 : decode cL_order 17 = .ok (.astore 4, 2) := by decide +kernel
theorem dL_order_19 : decode cL_order 19 = .ok (.iconst 2, 1) := by decide +kernel
theorem dL_order_20 : decode cL_order 20 = .ok (.ireturn, 1) := by decide +kernel
theorem dL_order_21 : decode cL_order 21 = .ok (.iconst 0, 1) := by decide +kernel
theorem dL_order_22 : decode cL_order 22 = .ok (.ireturn, 1) := by decide +kernel
theorem dL_addSlit_0 : decode cL_addSlit 0 = .ok (.aload_n 2, 1) := by decide +kernel
theorem dL_addSlit_1 : decode cL_addSlit 1 = .ok (.iconst 0, 1) := by decide +kernel
theorem dL_addSlit_2 : decode cL_addSlit 2 = .ok (.aload_n 0, 1) := by decide +kernel
theorem dL_addSlit_3 : decode cL_addSlit 3 = .ok (.iload_n 1, 1) := by decide +kernel
theorem dL_addSlit_4 : decode cL_addSlit 4 = .ok (.invokevirtual 30, 3) := by decide +kernel
theorem dL_addSlit_7 : decode cL_addSlit 7 = .ok (.i2l, 1) := by decide +kernel
theorem dL_addSlit_8 : decode cL_addSlit 8 = .ok (.lastore, 1) := by decide +kernel
theorem dL_addSlit_9 : decode cL_addSlit 9 = .ok (.goto 9, 3) := by decide +kernel
theorem dL_addSlit_12 : decode cL_addSlit 12 = .ok (.astore_n 3, 1) := by decide +kernel
theorem dL_addSlit_13 : decode cL_addSlit 13 = .ok (.iconst 1, 1) := by decide +kernel
theorem dL_addSlit_14 : decode cL_addSlit 14 = .ok (.ireturn, 1) := by decide +kernel
theorem dL_addSlit_15 : decode cL_addSlit 15 = .ok (.astore_n 3, 1) := by decide +kernel
theorem dL_addSlit_16 : decode cL_addSlit 16 = .ok (.iconst 2, 1) := by decide +kernel
theorem dL_addSlit_17 : decode cL_addSlit 17 = .ok (.ireturn, 1) := by decide +kernel
theorem dL_addSlit_18 : decode cL_addSlit 18 = .ok (.iconst 0, 1) := by decide +kernel
theorem dL_addSlit_19 : decode cL_addSlit 19 = .ok (.ireturn, 1) := by decide +kernel
theorem dL_draftWidth_0 : decode cL_draftWidth 0 = .ok (.aload_n 2, 1) := by decide +kernel
theorem dL_draftWidth_1 : decode cL_draftWidth 1 = .ok (.iconst 0, 1) := by decide +kernel
theorem dL_draftWidth_2 : decode cL_draftWidth 2 = .ok (.aload_n 0, 1) := by decide +kernel
theorem dL_draftWidth_3 : decode cL_draftWidth 3 = .ok (.iload_n 1, 1) := by decide +kernel
theorem dL_draftWidth_4 : decode cL_draftWidth 4 = .ok (.invokevirtual 34, 3) := by decide +kernel
theorem dL_draftWidth_7 : decode cL_draftWidth 7 = .ok (.i2l, 1) := by decide +kernel
theorem dL_draftWidth_8 : decode cL_draftWidth 8 = .ok (.lastore, 1) := by decide +kernel
theorem dL_draftWidth_9 : decode cL_draftWidth 9 = .ok (.goto 6, 3) := by decide +kernel
theorem dL_draftWidth_12 : decode cL_draftWidth 12 = .ok (.astore_n 3, 1) := by decide +kernel
theorem dL_draftWidth_13 : decode cL_draftWidth 13 = .ok (.iconst 1, 1) := by decide +kernel
theorem dL_draftWidth_14 : decode cL_draftWidth 14 = .ok (.ireturn, 1) := by decide +kernel
theorem dL_draftWidth_15 : decode cL_draftWidth 15 = .ok (.iconst 0, 1) := by decide +kernel
theorem dL_draftWidth_16 : decode cL_draftWidth 16 = .ok (.ireturn, 1) := by decide +kernel
theorem dL_keep_0 : decode cL_keep 0 = .ok (.aload_n 1, 1) := by decide +kernel
theorem dL_keep_1 : decode cL_keep 1 = .ok (.iconst 0, 1) := by decide +kernel
theorem dL_keep_2 : decode cL_keep 2 = .ok (.aload_n 0, 1) := by decide +kernel
theorem dL_keep_3 : decode cL_keep 3 = .ok (.invokevirtual 37, 3) := by decide +kernel
theorem dL_keep_6 : decode cL_keep 6 = .ok (.i2l, 1) := by decide +kernel
theorem dL_keep_7 : decode cL_keep 7 = .ok (.lastore, 1) := by decide +kernel
theorem dL_keep_8 : decode cL_keep 8 = .ok (.goto 6, 3) := by decide +kernel
theorem dL_keep_11 : decode cL_keep 11 = .ok (.astore_n 2, 1) := by decide +kernel
theorem dL_keep_12 : decode cL_keep 12 = .ok (.iconst 1, 1) := by decide +kernel
theorem dL_keep_13 : decode cL_keep 13 = .ok (.ireturn, 1) := by decide +kernel
theorem dL_keep_14 : decode cL_keep 14 = .ok (.iconst 0, 1) := by decide +kernel
theorem dL_keep_15 : decode cL_keep 15 = .ok (.ireturn, 1) := by decide +kernel
theorem dL_fits_0 : decode cL_fits 0 = .ok (.aload_n 3, 1) := by decide +kernel
theorem dL_fits_1 : decode cL_fits 1 = .ok (.iconst 0, 1) := by decide +kernel
theorem dL_fits_2 : decode cL_fits 2 = .ok (.aload_n 0, 1) := by decide +kernel
theorem dL_fits_3 : decode cL_fits 3 = .ok (.iload_n 1, 1) := by decide +kernel
theorem dL_fits_4 : decode cL_fits 4 = .ok (.iload_n 2, 1) := by decide +kernel
theorem dL_fits_5 : decode cL_fits 5 = .ok (.invokevirtual 41, 3) := by decide +kernel
theorem dL_fits_8 : decode cL_fits 8 = .ok (.ifCond .eq 7, 3) := by decide +kernel
theorem dL_fits_11 : decode cL_fits 11 = .ok (.lconst 1, 1) := by decide +kernel
theorem dL_fits_12 : decode cL_fits 12 = .ok (.goto 4, 3) := by decide +kernel
theorem dL_fits_15 : decode cL_fits 15 = .ok (.lconst 0, 1) := by decide +kernel
theorem dL_fits_16 : decode cL_fits 16 = .ok (.lastore, 1) := by decide +kernel
theorem dL_fits_17 : decode cL_fits 17 = .ok (.goto 7, 3) := by decide +kernel
theorem dL_fits_20 : decode cL_fits 20 = .ok (.astore 4, 2) := by decide +kernel
theorem dL_fits_22 : decode cL_fits 22 = .ok (.iconst 1, 1) := by decide +kernel
theorem dL_fits_23 : decode cL_fits 23 = .ok (.ireturn, 1) := by decide +kernel
theorem dL_fits_24 : decode cL_fits 24 = .ok (.iconst 0, 1) := by decide +kernel
theorem dL_fits_25 : decode cL_fits 25 = .ok (.ireturn, 1) := by decide +kernel
theorem dL_fill_0 : decode cL_fill 0 = .ok (.aload_n 2, 1) := by decide +kernel
theorem dL_fill_1 : decode cL_fill 1 = .ok (.iconst 0, 1) := by decide +kernel
theorem dL_fill_2 : decode cL_fill 2 = .ok (.aload_n 0, 1) := by decide +kernel
theorem dL_fill_3 : decode cL_fill 3 = .ok (.iload_n 1, 1) := by decide +kernel
theorem dL_fill_4 : decode cL_fill 4 = .ok (.invokevirtual 45, 3) := by decide +kernel
theorem dL_fill_7 : decode cL_fill 7 = .ok (.i2l, 1) := by decide +kernel
theorem dL_fill_8 : decode cL_fill 8 = .ok (.lastore, 1) := by decide +kernel
theorem dL_fill_9 : decode cL_fill 9 = .ok (.goto 6, 3) := by decide +kernel
theorem dL_fill_12 : decode cL_fill 12 = .ok (.astore_n 3, 1) := by decide +kernel
theorem dL_fill_13 : decode cL_fill 13 = .ok (.iconst 1, 1) := by decide +kernel
theorem dL_fill_14 : decode cL_fill 14 = .ok (.ireturn, 1) := by decide +kernel
theorem dL_fill_15 : decode cL_fill 15 = .ok (.iconst 0, 1) := by decide +kernel
theorem dL_fill_16 : decode cL_fill 16 = .ok (.ireturn, 1) := by decide +kernel
theorem dL_fullestByTrying_0 : decode cL_fullestByTrying 0 = .ok (.aload_n 2, 1) := by decide +kernel
theorem dL_fullestByTrying_1 : decode cL_fullestByTrying 1 = .ok (.iconst 0, 1) := by decide +kernel
theorem dL_fullestByTrying_2 : decode cL_fullestByTrying 2 = .ok (.aload_n 0, 1) := by decide +kernel
theorem dL_fullestByTrying_3 : decode cL_fullestByTrying 3 = .ok (.iload_n 1, 1) := by decide +kernel
theorem dL_fullestByTrying_4 : decode cL_fullestByTrying 4 = .ok (.invokevirtual 48, 3) := by decide +kernel
theorem dL_fullestByTrying_7 : decode cL_fullestByTrying 7 = .ok (.i2l, 1) := by decide +kernel
theorem dL_fullestByTrying_8 : decode cL_fullestByTrying 8 = .ok (.lastore, 1) := by decide +kernel
theorem dL_fullestByTrying_9 : decode cL_fullestByTrying 9 = .ok (.goto 9, 3) := by decide +kernel
theorem dL_fullestByTrying_12 : decode cL_fullestByTrying 12 = .ok (.astore_n 3, 1) := by decide +kernel
theorem dL_fullestByTrying_13 : decode cL_fullestByTrying 13 = .ok (.iconst 1, 1) := by decide +kernel
theorem dL_fullestByTrying_14 : decode cL_fullestByTrying 14 = .ok (.ireturn, 1) := by decide +kernel
theorem dL_fullestByTrying_15 : decode cL_fullestByTrying 15 = .ok (.astore_n 3, 1) := by decide +kernel
theorem dL_fullestByTrying_16 : decode cL_fullestByTrying 16 = .ok (.iconst 2, 1) := by decide +kernel
theorem dL_fullestByTrying_17 : decode cL_fullestByTrying 17 = .ok (.ireturn, 1) := by decide +kernel
theorem dL_fullestByTrying_18 : decode cL_fullestByTrying 18 = .ok (.iconst 0, 1) := by decide +kernel
theorem dL_fullestByTrying_19 : decode cL_fullestByTrying 19 = .ok (.ireturn, 1) := by decide +kernel
theorem dL_run_0 : decode cL_run 0 = .ok (.aload_n 3, 1) := by decide +kernel
theorem dL_run_1 : decode cL_run 1 = .ok (.iconst 0, 1) := by decide +kernel
theorem dL_run_2 : decode cL_run 2 = .ok (.aload_n 0, 1) := by decide +kernel
theorem dL_run_3 : decode cL_run 3 = .ok (.iload_n 1, 1) := by decide +kernel
theorem dL_run_4 : decode cL_run 4 = .ok (.iload_n 2, 1) := by decide +kernel
theorem dL_run_5 : decode cL_run 5 = .ok (.invokevirtual 51, 3) := by decide +kernel
theorem dL_run_8 : decode cL_run 8 = .ok (.i2l, 1) := by decide +kernel
theorem dL_run_9 : decode cL_run 9 = .ok (.lastore, 1) := by decide +kernel
theorem dL_run_10 : decode cL_run 10 = .ok (.goto 11, 3) := by decide +kernel
theorem dL_run_13 : decode cL_run 13 = .ok (.astore 4, 2) := by decide +kernel
theorem dL_run_15 : decode cL_run 15 = .ok (.iconst 1, 1) := by decide +kernel
theorem dL_run_16 : decode cL_run 16 = .ok (.ireturn, 1) := by decide +kernel
theorem dL_run_17 : decode cL_run 17 = .ok (.astore 4, 2) := by decide +kernel
theorem dL_run_19 : decode cL_run 19 = .ok (.iconst 2, 1) := by decide +kernel
theorem dL_run_20 : decode cL_run 20 = .ok (.ireturn, 1) := by decide +kernel
theorem dL_run_21 : decode cL_run 21 = .ok (.iconst 0, 1) := by decide +kernel
theorem dL_run_22 : decode cL_run 22 = .ok (.ireturn, 1) := by decide +kernel
theorem dL_moves_0 : decode cL_moves 0 = .ok (.aload_n 2, 1) := by decide +kernel
theorem dL_moves_1 : decode cL_moves 1 = .ok (.iconst 0, 1) := by decide +kernel
theorem dL_moves_2 : decode cL_moves 2 = .ok (.aload_n 0, 1) := by decide +kernel
theorem dL_moves_3 : decode cL_moves 3 = .ok (.iload_n 1, 1) := by decide +kernel
theorem dL_moves_4 : decode cL_moves 4 = .ok (.invokevirtual 54, 3) := by decide +kernel
theorem dL_moves_7 : decode cL_moves 7 = .ok (.i2l, 1) := by decide +kernel
theorem dL_moves_8 : decode cL_moves 8 = .ok (.lastore, 1) := by decide +kernel
theorem dL_moves_9 : decode cL_moves 9 = .ok (.goto 6, 3) := by decide +kernel
theorem dL_moves_12 : decode cL_moves 12 = .ok (.astore_n 3, 1) := by decide +kernel
theorem dL_moves_13 : decode cL_moves 13 = .ok (.iconst 1, 1) := by decide +kernel
theorem dL_moves_14 : decode cL_moves 14 = .ok (.ireturn, 1) := by decide +kernel
theorem dL_moves_15 : decode cL_moves 15 = .ok (.iconst 0, 1) := by decide +kernel
theorem dL_moves_16 : decode cL_moves 16 = .ok (.ireturn, 1) := by decide +kernel
theorem dL_plan_0 : decode cL_plan 0 = .ok (.aload_n 3, 1) := by decide +kernel
theorem dL_plan_1 : decode cL_plan 1 = .ok (.iconst 0, 1) := by decide +kernel
theorem dL_plan_2 : decode cL_plan 2 = .ok (.aload_n 0, 1) := by decide +kernel
theorem dL_plan_3 : decode cL_plan 3 = .ok (.iload_n 1, 1) := by decide +kernel
theorem dL_plan_4 : decode cL_plan 4 = .ok (.iload_n 2, 1) := by decide +kernel
theorem dL_plan_5 : decode cL_plan 5 = .ok (.invokevirtual 57, 3) := by decide +kernel
theorem dL_plan_8 : decode cL_plan 8 = .ok (.i2l, 1) := by decide +kernel
theorem dL_plan_9 : decode cL_plan 9 = .ok (.lastore, 1) := by decide +kernel
theorem dL_plan_10 : decode cL_plan 10 = .ok (.goto 11, 3) := by decide +kernel
theorem dL_plan_13 : decode cL_plan 13 = .ok (.astore 4, 2) := by decide +kernel
theorem dL_plan_15 : decode cL_plan 15 = .ok (.iconst 1, 1) := by decide +kernel
theorem dL_plan_16 : decode cL_plan 16 = .ok (.ireturn, 1) := by decide +kernel
theorem dL_plan_17 : decode cL_plan 17 = .ok (.astore 4, 2) := by decide +kernel
theorem dL_plan_19 : decode cL_plan 19 = .ok (.iconst 2, 1) := by decide +kernel
theorem dL_plan_20 : decode cL_plan 20 = .ok (.ireturn, 1) := by decide +kernel
theorem dL_plan_21 : decode cL_plan 21 = .ok (.iconst 0, 1) := by decide +kernel
theorem dL_plan_22 : decode cL_plan 22 = .ok (.ireturn, 1) := by decide +kernel
theorem dL_nextAt_0 : decode cL_nextAt 0 = .ok (.aload_n 2, 1) := by decide +kernel
theorem dL_nextAt_1 : decode cL_nextAt 1 = .ok (.iconst 0, 1) := by decide +kernel
theorem dL_nextAt_2 : decode cL_nextAt 2 = .ok (.aload_n 0, 1) := by decide +kernel
theorem dL_nextAt_3 : decode cL_nextAt 3 = .ok (.iload_n 1, 1) := by decide +kernel
theorem dL_nextAt_4 : decode cL_nextAt 4 = .ok (.invokevirtual 60, 3) := by decide +kernel
theorem dL_nextAt_7 : decode cL_nextAt 7 = .ok (.i2l, 1) := by decide +kernel
theorem dL_nextAt_8 : decode cL_nextAt 8 = .ok (.lastore, 1) := by decide +kernel
theorem dL_nextAt_9 : decode cL_nextAt 9 = .ok (.goto 6, 3) := by decide +kernel
theorem dL_nextAt_12 : decode cL_nextAt 12 = .ok (.astore_n 3, 1) := by decide +kernel
theorem dL_nextAt_13 : decode cL_nextAt 13 = .ok (.iconst 1, 1) := by decide +kernel
theorem dL_nextAt_14 : decode cL_nextAt 14 = .ok (.ireturn, 1) := by decide +kernel
theorem dL_nextAt_15 : decode cL_nextAt 15 = .ok (.iconst 0, 1) := by decide +kernel
theorem dL_nextAt_16 : decode cL_nextAt 16 = .ok (.ireturn, 1) := by decide +kernel
theorem dL_slits_0 : decode cL_slits 0 = .ok (.aload_n 2, 1) := by decide +kernel
theorem dL_slits_1 : decode cL_slits 1 = .ok (.iconst 0, 1) := by decide +kernel
theorem dL_slits_2 : decode cL_slits 2 = .ok (.aload_n 0, 1) := by decide +kernel
theorem dL_slits_3 : decode cL_slits 3 = .ok (.iload_n 1, 1) := by decide +kernel
theorem dL_slits_4 : decode cL_slits 4 = .ok (.invokevirtual 63, 3) := by decide +kernel
theorem dL_slits_7 : decode cL_slits 7 = .ok (.i2l, 1) := by decide +kernel
theorem dL_slits_8 : decode cL_slits 8 = .ok (.lastore, 1) := by decide +kernel
theorem dL_slits_9 : decode cL_slits 9 = .ok (.goto 6, 3) := by decide +kernel
theorem dL_slits_12 : decode cL_slits 12 = .ok (.astore_n 3, 1) := by decide +kernel
theorem dL_slits_13 : decode cL_slits 13 = .ok (.iconst 1, 1) := by decide +kernel
theorem dL_slits_14 : decode cL_slits 14 = .ok (.ireturn, 1) := by decide +kernel
theorem dL_slits_15 : decode cL_slits 15 = .ok (.iconst 0, 1) := by decide +kernel
theorem dL_slits_16 : decode cL_slits 16 = .ok (.ireturn, 1) := by decide +kernel
theorem dL_slitWeight_0 : decode cL_slitWeight 0 = .ok (.aload_n 3, 1) := by decide +kernel
theorem dL_slitWeight_1 : decode cL_slitWeight 1 = .ok (.iconst 0, 1) := by decide +kernel
theorem dL_slitWeight_2 : decode cL_slitWeight 2 = .ok (.aload_n 0, 1) := by decide +kernel
theorem dL_slitWeight_3 : decode cL_slitWeight 3 = .ok (.iload_n 1, 1) := by decide +kernel
theorem dL_slitWeight_4 : decode cL_slitWeight 4 = .ok (.iload_n 2, 1) := by decide +kernel
theorem dL_slitWeight_5 : decode cL_slitWeight 5 = .ok (.invokevirtual 66, 3) := by decide +kernel
theorem dL_slitWeight_8 : decode cL_slitWeight 8 = .ok (.i2l, 1) := by decide +kernel
theorem dL_slitWeight_9 : decode cL_slitWeight 9 = .ok (.lastore, 1) := by decide +kernel
theorem dL_slitWeight_10 : decode cL_slitWeight 10 = .ok (.goto 7, 3) := by decide +kernel
theorem dL_slitWeight_13 : decode cL_slitWeight 13 = .ok (.astore 4, 2) := by decide +kernel
theorem dL_slitWeight_15 : decode cL_slitWeight 15 = .ok (.iconst 1, 1) := by decide +kernel
theorem dL_slitWeight_16 : decode cL_slitWeight 16 = .ok (.ireturn, 1) := by decide +kernel
theorem dL_slitWeight_17 : decode cL_slitWeight 17 = .ok (.iconst 0, 1) := by decide +kernel
theorem dL_slitWeight_18 : decode cL_slitWeight 18 = .ok (.ireturn, 1) := by decide +kernel
theorem dL_slitOrder_0 : decode cL_slitOrder 0 = .ok (.aload_n 3, 1) := by decide +kernel
theorem dL_slitOrder_1 : decode cL_slitOrder 1 = .ok (.iconst 0, 1) := by decide +kernel
theorem dL_slitOrder_2 : decode cL_slitOrder 2 = .ok (.aload_n 0, 1) := by decide +kernel
theorem dL_slitOrder_3 : decode cL_slitOrder 3 = .ok (.iload_n 1, 1) := by decide +kernel
theorem dL_slitOrder_4 : decode cL_slitOrder 4 = .ok (.iload_n 2, 1) := by decide +kernel
theorem dL_slitOrder_5 : decode cL_slitOrder 5 = .ok (.invokevirtual 69, 3) := by decide +kernel
theorem dL_slitOrder_8 : decode cL_slitOrder 8 = .ok (.i2l, 1) := by decide +kernel
theorem dL_slitOrder_9 : decode cL_slitOrder 9 = .ok (.lastore, 1) := by decide +kernel
theorem dL_slitOrder_10 : decode cL_slitOrder 10 = .ok (.goto 7, 3) := by decide +kernel
theorem dL_slitOrder_13 : decode cL_slitOrder 13 = .ok (.astore 4, 2) := by decide +kernel
theorem dL_slitOrder_15 : decode cL_slitOrder 15 = .ok (.iconst 1, 1) := by decide +kernel
theorem dL_slitOrder_16 : decode cL_slitOrder 16 = .ok (.ireturn, 1) := by decide +kernel
theorem dL_slitOrder_17 : decode cL_slitOrder 17 = .ok (.iconst 0, 1) := by decide +kernel
theorem dL_slitOrder_18 : decode cL_slitOrder 18 = .ok (.ireturn, 1) := by decide +kernel
theorem dL_lost_0 : decode cL_lost 0 = .ok (.aload_n 3, 1) := by decide +kernel
theorem dL_lost_1 : decode cL_lost 1 = .ok (.iconst 0, 1) := by decide +kernel
theorem dL_lost_2 : decode cL_lost 2 = .ok (.aload_n 0, 1) := by decide +kernel
theorem dL_lost_3 : decode cL_lost 3 = .ok (.iload_n 1, 1) := by decide +kernel
theorem dL_lost_4 : decode cL_lost 4 = .ok (.iload_n 2, 1) := by decide +kernel
theorem dL_lost_5 : decode cL_lost 5 = .ok (.invokevirtual 72, 3) := by decide +kernel
theorem dL_lost_8 : decode cL_lost 8 = .ok (.i2l, 1) := by decide +kernel
theorem dL_lost_9 : decode cL_lost 9 = .ok (.lastore, 1) := by decide +kernel
theorem dL_lost_10 : decode cL_lost 10 = .ok (.goto 11, 3) := by decide +kernel
theorem dL_lost_13 : decode cL_lost 13 = .ok (.astore 4, 2) := by decide +kernel
theorem dL_lost_15 : decode cL_lost 15 = .ok (.iconst 1, 1) := by decide +kernel
theorem dL_lost_16 : decode cL_lost 16 = .ok (.ireturn, 1) := by decide +kernel
theorem dL_lost_17 : decode cL_lost 17 = .ok (.astore 4, 2) := by decide +kernel
theorem dL_lost_19 : decode cL_lost 19 = .ok (.iconst 2, 1) := by decide +kernel
theorem dL_lost_20 : decode cL_lost 20 = .ok (.ireturn, 1) := by decide +kernel
theorem dL_lost_21 : decode cL_lost 21 = .ok (.iconst 0, 1) := by decide +kernel
theorem dL_lost_22 : decode cL_lost 22 = .ok (.ireturn, 1) := by decide +kernel
theorem dL_delivered_0 : decode cL_delivered 0 = .ok (.aload_n 2, 1) := by decide +kernel
theorem dL_delivered_1 : decode cL_delivered 1 = .ok (.iconst 0, 1) := by decide +kernel
theorem dL_delivered_2 : decode cL_delivered 2 = .ok (.aload_n 0, 1) := by decide +kernel
theorem dL_delivered_3 : decode cL_delivered 3 = .ok (.iload_n 1, 1) := by decide +kernel
theorem dL_delivered_4 : decode cL_delivered 4 = .ok (.invokevirtual 75, 3) := by decide +kernel
theorem dL_delivered_7 : decode cL_delivered 7 = .ok (.i2l, 1) := by decide +kernel
theorem dL_delivered_8 : decode cL_delivered 8 = .ok (.lastore, 1) := by decide +kernel
theorem dL_delivered_9 : decode cL_delivered 9 = .ok (.goto 6, 3) := by decide +kernel
theorem dL_delivered_12 : decode cL_delivered 12 = .ok (.astore_n 3, 1) := by decide +kernel
theorem dL_delivered_13 : decode cL_delivered 13 = .ok (.iconst 1, 1) := by decide +kernel
theorem dL_delivered_14 : decode cL_delivered 14 = .ok (.ireturn, 1) := by decide +kernel
theorem dL_delivered_15 : decode cL_delivered 15 = .ok (.iconst 0, 1) := by decide +kernel
theorem dL_delivered_16 : decode cL_delivered 16 = .ok (.ireturn, 1) := by decide +kernel
theorem dL_heatOf_0 : decode cL_heatOf 0 = .ok (.aload_n 2, 1) := by decide +kernel
theorem dL_heatOf_1 : decode cL_heatOf 1 = .ok (.iconst 0, 1) := by decide +kernel
theorem dL_heatOf_2 : decode cL_heatOf 2 = .ok (.aload_n 0, 1) := by decide +kernel
theorem dL_heatOf_3 : decode cL_heatOf 3 = .ok (.iload_n 1, 1) := by decide +kernel
theorem dL_heatOf_4 : decode cL_heatOf 4 = .ok (.invokevirtual 78, 3) := by decide +kernel
theorem dL_heatOf_7 : decode cL_heatOf 7 = .ok (.i2l, 1) := by decide +kernel
theorem dL_heatOf_8 : decode cL_heatOf 8 = .ok (.lastore, 1) := by decide +kernel
theorem dL_heatOf_9 : decode cL_heatOf 9 = .ok (.goto 6, 3) := by decide +kernel
theorem dL_heatOf_12 : decode cL_heatOf 12 = .ok (.astore_n 3, 1) := by decide +kernel
theorem dL_heatOf_13 : decode cL_heatOf 13 = .ok (.iconst 1, 1) := by decide +kernel
theorem dL_heatOf_14 : decode cL_heatOf 14 = .ok (.ireturn, 1) := by decide +kernel
theorem dL_heatOf_15 : decode cL_heatOf 15 = .ok (.iconst 0, 1) := by decide +kernel
theorem dL_heatOf_16 : decode cL_heatOf 16 = .ok (.ireturn, 1) := by decide +kernel
theorem dL_law_0 : decode cL_law 0 = .ok (.new 8, 3) := by decide +kernel
theorem dL_law_3 : decode cL_law 3 = .ok (.dup, 1) := by decide +kernel
theorem dL_law_4 : decode cL_law 4 = .ok (.invokespecial 81, 3) := by decide +kernel
theorem dL_law_7 : decode cL_law 7 = .ok (.astore_n 1, 1) := by decide +kernel
theorem dL_law_8 : decode cL_law 8 = .ok (.new 82, 3) := by decide +kernel
theorem dL_law_11 : decode cL_law 11 = .ok (.dup, 1) := by decide +kernel
theorem dL_law_12 : decode cL_law 12 = .ok (.invokespecial 84, 3) := by decide +kernel
theorem dL_law_15 : decode cL_law 15 = .ok (.astore_n 2, 1) := by decide +kernel
theorem dL_law_16 : decode cL_law 16 = .ok (.iconst 1, 1) := by decide +kernel
theorem dL_law_17 : decode cL_law 17 = .ok (.newarray .long, 2) := by decide +kernel
theorem dL_law_19 : decode cL_law 19 = .ok (.astore_n 3, 1) := by decide +kernel
theorem dL_law_20 : decode cL_law 20 = .ok (.iconst 0, 1) := by decide +kernel
theorem dL_law_21 : decode cL_law 21 = .ok (.istore 4, 2) := by decide +kernel
theorem dL_law_23 : decode cL_law 23 = .ok (.iload 4, 2) := by decide +kernel
theorem dL_law_25 : decode cL_law 25 = .ok (.aload_n 0, 1) := by decide +kernel
theorem dL_law_26 : decode cL_law 26 = .ok (.arraylength, 1) := by decide +kernel
theorem dL_law_27 : decode cL_law 27 = .ok (.iconst 5, 1) := by decide +kernel
theorem dL_law_28 : decode cL_law 28 = .ok (.isub, 1) := by decide +kernel
theorem dL_law_29 : decode cL_law 29 = .ok (.if_icmp .gt 1540, 3) := by decide +kernel
theorem dL_law_32 : decode cL_law 32 = .ok (.aload_n 0, 1) := by decide +kernel
theorem dL_law_33 : decode cL_law 33 = .ok (.iload 4, 2) := by decide +kernel
theorem dL_law_35 : decode cL_law 35 = .ok (.iaload, 1) := by decide +kernel
theorem dL_law_36 : decode cL_law 36 = .ok (.bipush 31, 2) := by decide +kernel
theorem dL_law_38 : decode cL_law 38 = .ok (.iand, 1) := by decide +kernel
theorem dL_law_39 : decode cL_law 39 = .ok (.tableswitch 1524 0 27 #[125, 217, 297, 377, 445, 501, 514, 527, 583, 627, 702, 758, 814, 882, 938, 951, 1019, 1032, 1045, 1058, 1114, 1127, 1183, 1251, 1319, 1387, 1443, 1499], 125) := by decide +kernel
theorem dL_law_164 : decode cL_law 164 = .ok (.aload_n 1, 1) := by decide +kernel
theorem dL_law_165 : decode cL_law 165 = .ok (.aload_n 0, 1) := by decide +kernel
theorem dL_law_166 : decode cL_law 166 = .ok (.iload 4, 2) := by decide +kernel
theorem dL_law_168 : decode cL_law 168 = .ok (.iconst 1, 1) := by decide +kernel
theorem dL_law_169 : decode cL_law 169 = .ok (.iadd, 1) := by decide +kernel
theorem dL_law_170 : decode cL_law 170 = .ok (.iaload, 1) := by decide +kernel
theorem dL_law_171 : decode cL_law 171 = .ok (.aload_n 0, 1) := by decide +kernel
theorem dL_law_172 : decode cL_law 172 = .ok (.iload 4, 2) := by decide +kernel
theorem dL_law_174 : decode cL_law 174 = .ok (.iconst 2, 1) := by decide +kernel
theorem dL_law_175 : decode cL_law 175 = .ok (.iadd, 1) := by decide +kernel
theorem dL_law_176 : decode cL_law 176 = .ok (.iaload, 1) := by decide +kernel
theorem dL_law_177 : decode cL_law 177 = .ok (.aload_n 0, 1) := by decide +kernel
theorem dL_law_178 : decode cL_law 178 = .ok (.iload 4, 2) := by decide +kernel
theorem dL_law_180 : decode cL_law 180 = .ok (.iconst 3, 1) := by decide +kernel
theorem dL_law_181 : decode cL_law 181 = .ok (.iadd, 1) := by decide +kernel
theorem dL_law_182 : decode cL_law 182 = .ok (.iaload, 1) := by decide +kernel
theorem dL_law_183 : decode cL_law 183 = .ok (.aload_n 0, 1) := by decide +kernel
theorem dL_law_184 : decode cL_law 184 = .ok (.iload 4, 2) := by decide +kernel
theorem dL_law_186 : decode cL_law 186 = .ok (.iconst 4, 1) := by decide +kernel
theorem dL_law_187 : decode cL_law 187 = .ok (.iadd, 1) := by decide +kernel
theorem dL_law_188 : decode cL_law 188 = .ok (.iaload, 1) := by decide +kernel
theorem dL_law_189 : decode cL_law 189 = .ok (.aload_n 3, 1) := by decide +kernel
theorem dL_law_190 : decode cL_law 190 = .ok (.invokestatic 85, 3) := by decide +kernel
theorem dL_law_193 : decode cL_law 193 = .ok (.istore 5, 2) := by decide +kernel
theorem dL_law_195 : decode cL_law 195 = .ok (.aload_n 2, 1) := by decide +kernel
theorem dL_law_196 : decode cL_law 196 = .ok (.aload_n 0, 1) := by decide +kernel
theorem dL_law_197 : decode cL_law 197 = .ok (.iload 4, 2) := by decide +kernel
theorem dL_law_199 : decode cL_law 199 = .ok (.iconst 1, 1) := by decide +kernel
theorem dL_law_200 : decode cL_law 200 = .ok (.iadd, 1) := by decide +kernel
theorem dL_law_201 : decode cL_law 201 = .ok (.iaload, 1) := by decide +kernel
theorem dL_law_202 : decode cL_law 202 = .ok (.aload_n 0, 1) := by decide +kernel
theorem dL_law_203 : decode cL_law 203 = .ok (.iload 4, 2) := by decide +kernel
theorem dL_law_205 : decode cL_law 205 = .ok (.iconst 2, 1) := by decide +kernel
theorem dL_law_206 : decode cL_law 206 = .ok (.iadd, 1) := by decide +kernel
theorem dL_law_207 : decode cL_law 207 = .ok (.iaload, 1) := by decide +kernel
theorem dL_law_208 : decode cL_law 208 = .ok (.aload_n 0, 1) := by decide +kernel
theorem dL_law_209 : decode cL_law 209 = .ok (.iload 4, 2) := by decide +kernel
theorem dL_law_211 : decode cL_law 211 = .ok (.iconst 3, 1) := by decide +kernel
theorem dL_law_212 : decode cL_law 212 = .ok (.iadd, 1) := by decide +kernel
theorem dL_law_213 : decode cL_law 213 = .ok (.iaload, 1) := by decide +kernel
theorem dL_law_214 : decode cL_law 214 = .ok (.aload_n 0, 1) := by decide +kernel
theorem dL_law_215 : decode cL_law 215 = .ok (.iload 4, 2) := by decide +kernel
theorem dL_law_217 : decode cL_law 217 = .ok (.iconst 4, 1) := by decide +kernel
theorem dL_law_218 : decode cL_law 218 = .ok (.iadd, 1) := by decide +kernel
theorem dL_law_219 : decode cL_law 219 = .ok (.iaload, 1) := by decide +kernel
theorem dL_law_220 : decode cL_law 220 = .ok (.invokevirtual 90, 3) := by decide +kernel
theorem dL_law_223 : decode cL_law 223 = .ok (.istore 6, 2) := by decide +kernel
theorem dL_law_225 : decode cL_law 225 = .ok (.aload_n 2, 1) := by decide +kernel
theorem dL_law_226 : decode cL_law 226 = .ok (.invokevirtual 91, 3) := by decide +kernel
theorem dL_law_229 : decode cL_law 229 = .ok (.iload 5, 2) := by decide +kernel
theorem dL_law_231 : decode cL_law 231 = .ok (.if_icmp .eq 5, 3) := by decide +kernel
theorem dL_law_234 : decode cL_law 234 = .ok (.iconst 0, 1) := by decide +kernel
theorem dL_law_235 : decode cL_law 235 = .ok (.ireturn, 1) := by decide +kernel
theorem dL_law_236 : decode cL_law 236 = .ok (.iload 5, 2) := by decide +kernel
theorem dL_law_238 : decode cL_law 238 = .ok (.ifCond .ne 15, 3) := by decide +kernel
theorem dL_law_241 : decode cL_law 241 = .ok (.aload_n 3, 1) := by decide +kernel
theorem dL_law_242 : decode cL_law 242 = .ok (.iconst 0, 1) := by decide +kernel
theorem dL_law_243 : decode cL_law 243 = .ok (.laload, 1) := by decide +kernel
theorem dL_law_244 : decode cL_law 244 = .ok (.iload 6, 2) := by decide +kernel
theorem dL_law_246 : decode cL_law 246 = .ok (.i2l, 1) := by decide +kernel
theorem dL_law_247 : decode cL_law 247 = .ok (.lcmp, 1) := by decide +kernel
theorem dL_law_248 : decode cL_law 248 = .ok (.ifCond .eq 5, 3) := by decide +kernel
theorem dL_law_251 : decode cL_law 251 = .ok (.iconst 0, 1) := by decide +kernel
theorem dL_law_252 : decode cL_law 252 = .ok (.ireturn, 1) := by decide +kernel
theorem dL_law_253 : decode cL_law 253 = .ok (.goto 1310, 3) := by decide +kernel
theorem dL_law_256 : decode cL_law 256 = .ok (.aload_n 1, 1) := by decide +kernel
theorem dL_law_257 : decode cL_law 257 = .ok (.aload_n 0, 1) := by decide +kernel
theorem dL_law_258 : decode cL_law 258 = .ok (.iload 4, 2) := by decide +kernel
theorem dL_law_260 : decode cL_law 260 = .ok (.iconst 1, 1) := by decide +kernel
theorem dL_law_261 : decode cL_law 261 = .ok (.iadd, 1) := by decide +kernel
theorem dL_law_262 : decode cL_law 262 = .ok (.iaload, 1) := by decide +kernel
theorem dL_law_263 : decode cL_law 263 = .ok (.aload_n 0, 1) := by decide +kernel
theorem dL_law_264 : decode cL_law 264 = .ok (.iload 4, 2) := by decide +kernel
theorem dL_law_266 : decode cL_law 266 = .ok (.iconst 2, 1) := by decide +kernel
theorem dL_law_267 : decode cL_law 267 = .ok (.iadd, 1) := by decide +kernel
theorem dL_law_268 : decode cL_law 268 = .ok (.iaload, 1) := by decide +kernel
theorem dL_law_269 : decode cL_law 269 = .ok (.aload_n 0, 1) := by decide +kernel
theorem dL_law_270 : decode cL_law 270 = .ok (.iload 4, 2) := by decide +kernel
theorem dL_law_272 : decode cL_law 272 = .ok (.iconst 3, 1) := by decide +kernel
theorem dL_law_273 : decode cL_law 273 = .ok (.iadd, 1) := by decide +kernel
theorem dL_law_274 : decode cL_law 274 = .ok (.iaload, 1) := by decide +kernel
theorem dL_law_275 : decode cL_law 275 = .ok (.aload_n 3, 1) := by decide +kernel
theorem dL_law_276 : decode cL_law 276 = .ok (.invokestatic 94, 3) := by decide +kernel
theorem dL_law_279 : decode cL_law 279 = .ok (.istore 5, 2) := by decide +kernel
theorem dL_law_281 : decode cL_law 281 = .ok (.aload_n 2, 1) := by decide +kernel
theorem dL_law_282 : decode cL_law 282 = .ok (.aload_n 0, 1) := by decide +kernel
theorem dL_law_283 : decode cL_law 283 = .ok (.iload 4, 2) := by decide +kernel
theorem dL_law_285 : decode cL_law 285 = .ok (.iconst 1, 1) := by decide +kernel
theorem dL_law_286 : decode cL_law 286 = .ok (.iadd, 1) := by decide +kernel
theorem dL_law_287 : decode cL_law 287 = .ok (.iaload, 1) := by decide +kernel
theorem dL_law_288 : decode cL_law 288 = .ok (.aload_n 0, 1) := by decide +kernel
theorem dL_law_289 : decode cL_law 289 = .ok (.iload 4, 2) := by decide +kernel
theorem dL_law_291 : decode cL_law 291 = .ok (.iconst 2, 1) := by decide +kernel
theorem dL_law_292 : decode cL_law 292 = .ok (.iadd, 1) := by decide +kernel
theorem dL_law_293 : decode cL_law 293 = .ok (.iaload, 1) := by decide +kernel
theorem dL_law_294 : decode cL_law 294 = .ok (.aload_n 0, 1) := by decide +kernel
theorem dL_law_295 : decode cL_law 295 = .ok (.iload 4, 2) := by decide +kernel
theorem dL_law_297 : decode cL_law 297 = .ok (.iconst 3, 1) := by decide +kernel
theorem dL_law_298 : decode cL_law 298 = .ok (.iadd, 1) := by decide +kernel
theorem dL_law_299 : decode cL_law 299 = .ok (.iaload, 1) := by decide +kernel
theorem dL_law_300 : decode cL_law 300 = .ok (.invokevirtual 97, 3) := by decide +kernel
theorem dL_law_303 : decode cL_law 303 = .ok (.istore 6, 2) := by decide +kernel
theorem dL_law_305 : decode cL_law 305 = .ok (.aload_n 2, 1) := by decide +kernel
theorem dL_law_306 : decode cL_law 306 = .ok (.invokevirtual 91, 3) := by decide +kernel
theorem dL_law_309 : decode cL_law 309 = .ok (.iload 5, 2) := by decide +kernel
theorem dL_law_311 : decode cL_law 311 = .ok (.if_icmp .eq 5, 3) := by decide +kernel
theorem dL_law_314 : decode cL_law 314 = .ok (.iconst 0, 1) := by decide +kernel
theorem dL_law_315 : decode cL_law 315 = .ok (.ireturn, 1) := by decide +kernel
theorem dL_law_316 : decode cL_law 316 = .ok (.iload 5, 2) := by decide +kernel
theorem dL_law_318 : decode cL_law 318 = .ok (.ifCond .ne 15, 3) := by decide +kernel
theorem dL_law_321 : decode cL_law 321 = .ok (.aload_n 3, 1) := by decide +kernel
theorem dL_law_322 : decode cL_law 322 = .ok (.iconst 0, 1) := by decide +kernel
theorem dL_law_323 : decode cL_law 323 = .ok (.laload, 1) := by decide +kernel
theorem dL_law_324 : decode cL_law 324 = .ok (.iload 6, 2) := by decide +kernel
theorem dL_law_326 : decode cL_law 326 = .ok (.i2l, 1) := by decide +kernel
theorem dL_law_327 : decode cL_law 327 = .ok (.lcmp, 1) := by decide +kernel
theorem dL_law_328 : decode cL_law 328 = .ok (.ifCond .eq 5, 3) := by decide +kernel
theorem dL_law_331 : decode cL_law 331 = .ok (.iconst 0, 1) := by decide +kernel
theorem dL_law_332 : decode cL_law 332 = .ok (.ireturn, 1) := by decide +kernel
theorem dL_law_333 : decode cL_law 333 = .ok (.goto 1230, 3) := by decide +kernel
theorem dL_law_336 : decode cL_law 336 = .ok (.aload_n 1, 1) := by decide +kernel
theorem dL_law_337 : decode cL_law 337 = .ok (.aload_n 0, 1) := by decide +kernel
theorem dL_law_338 : decode cL_law 338 = .ok (.iload 4, 2) := by decide +kernel
theorem dL_law_340 : decode cL_law 340 = .ok (.iconst 1, 1) := by decide +kernel
theorem dL_law_341 : decode cL_law 341 = .ok (.iadd, 1) := by decide +kernel
theorem dL_law_342 : decode cL_law 342 = .ok (.iaload, 1) := by decide +kernel
theorem dL_law_343 : decode cL_law 343 = .ok (.aload_n 0, 1) := by decide +kernel
theorem dL_law_344 : decode cL_law 344 = .ok (.iload 4, 2) := by decide +kernel
theorem dL_law_346 : decode cL_law 346 = .ok (.iconst 2, 1) := by decide +kernel
theorem dL_law_347 : decode cL_law 347 = .ok (.iadd, 1) := by decide +kernel
theorem dL_law_348 : decode cL_law 348 = .ok (.iaload, 1) := by decide +kernel
theorem dL_law_349 : decode cL_law 349 = .ok (.aload_n 0, 1) := by decide +kernel
theorem dL_law_350 : decode cL_law 350 = .ok (.iload 4, 2) := by decide +kernel
theorem dL_law_352 : decode cL_law 352 = .ok (.iconst 3, 1) := by decide +kernel
theorem dL_law_353 : decode cL_law 353 = .ok (.iadd, 1) := by decide +kernel
theorem dL_law_354 : decode cL_law 354 = .ok (.iaload, 1) := by decide +kernel
theorem dL_law_355 : decode cL_law 355 = .ok (.aload_n 3, 1) := by decide +kernel
theorem dL_law_356 : decode cL_law 356 = .ok (.invokestatic 98, 3) := by decide +kernel
theorem dL_law_359 : decode cL_law 359 = .ok (.istore 5, 2) := by decide +kernel
theorem dL_law_361 : decode cL_law 361 = .ok (.aload_n 2, 1) := by decide +kernel
theorem dL_law_362 : decode cL_law 362 = .ok (.aload_n 0, 1) := by decide +kernel
theorem dL_law_363 : decode cL_law 363 = .ok (.iload 4, 2) := by decide +kernel
theorem dL_law_365 : decode cL_law 365 = .ok (.iconst 1, 1) := by decide +kernel
theorem dL_law_366 : decode cL_law 366 = .ok (.iadd, 1) := by decide +kernel
theorem dL_law_367 : decode cL_law 367 = .ok (.iaload, 1) := by decide +kernel
theorem dL_law_368 : decode cL_law 368 = .ok (.aload_n 0, 1) := by decide +kernel
theorem dL_law_369 : decode cL_law 369 = .ok (.iload 4, 2) := by decide +kernel
theorem dL_law_371 : decode cL_law 371 = .ok (.iconst 2, 1) := by decide +kernel
theorem dL_law_372 : decode cL_law 372 = .ok (.iadd, 1) := by decide +kernel
theorem dL_law_373 : decode cL_law 373 = .ok (.iaload, 1) := by decide +kernel
theorem dL_law_374 : decode cL_law 374 = .ok (.aload_n 0, 1) := by decide +kernel
theorem dL_law_375 : decode cL_law 375 = .ok (.iload 4, 2) := by decide +kernel
theorem dL_law_377 : decode cL_law 377 = .ok (.iconst 3, 1) := by decide +kernel
theorem dL_law_378 : decode cL_law 378 = .ok (.iadd, 1) := by decide +kernel
theorem dL_law_379 : decode cL_law 379 = .ok (.iaload, 1) := by decide +kernel
theorem dL_law_380 : decode cL_law 380 = .ok (.invokevirtual 100, 3) := by decide +kernel
theorem dL_law_383 : decode cL_law 383 = .ok (.istore 6, 2) := by decide +kernel
theorem dL_law_385 : decode cL_law 385 = .ok (.aload_n 2, 1) := by decide +kernel
theorem dL_law_386 : decode cL_law 386 = .ok (.invokevirtual 91, 3) := by decide +kernel
theorem dL_law_389 : decode cL_law 389 = .ok (.iload 5, 2) := by decide +kernel
theorem dL_law_391 : decode cL_law 391 = .ok (.if_icmp .eq 5, 3) := by decide +kernel
theorem dL_law_394 : decode cL_law 394 = .ok (.iconst 0, 1) := by decide +kernel
theorem dL_law_395 : decode cL_law 395 = .ok (.ireturn, 1) := by decide +kernel
theorem dL_law_396 : decode cL_law 396 = .ok (.iload 5, 2) := by decide +kernel
theorem dL_law_398 : decode cL_law 398 = .ok (.ifCond .ne 15, 3) := by decide +kernel
theorem dL_law_401 : decode cL_law 401 = .ok (.aload_n 3, 1) := by decide +kernel
theorem dL_law_402 : decode cL_law 402 = .ok (.iconst 0, 1) := by decide +kernel
theorem dL_law_403 : decode cL_law 403 = .ok (.laload, 1) := by decide +kernel
theorem dL_law_404 : decode cL_law 404 = .ok (.iload 6, 2) := by decide +kernel
theorem dL_law_406 : decode cL_law 406 = .ok (.i2l, 1) := by decide +kernel
theorem dL_law_407 : decode cL_law 407 = .ok (.lcmp, 1) := by decide +kernel
theorem dL_law_408 : decode cL_law 408 = .ok (.ifCond .eq 5, 3) := by decide +kernel
theorem dL_law_411 : decode cL_law 411 = .ok (.iconst 0, 1) := by decide +kernel
theorem dL_law_412 : decode cL_law 412 = .ok (.ireturn, 1) := by decide +kernel
theorem dL_law_413 : decode cL_law 413 = .ok (.goto 1150, 3) := by decide +kernel
theorem dL_law_416 : decode cL_law 416 = .ok (.aload_n 1, 1) := by decide +kernel
theorem dL_law_417 : decode cL_law 417 = .ok (.aload_n 0, 1) := by decide +kernel
theorem dL_law_418 : decode cL_law 418 = .ok (.iload 4, 2) := by decide +kernel
theorem dL_law_420 : decode cL_law 420 = .ok (.iconst 1, 1) := by decide +kernel
theorem dL_law_421 : decode cL_law 421 = .ok (.iadd, 1) := by decide +kernel
theorem dL_law_422 : decode cL_law 422 = .ok (.iaload, 1) := by decide +kernel
theorem dL_law_423 : decode cL_law 423 = .ok (.aload_n 0, 1) := by decide +kernel
theorem dL_law_424 : decode cL_law 424 = .ok (.iload 4, 2) := by decide +kernel
theorem dL_law_426 : decode cL_law 426 = .ok (.iconst 2, 1) := by decide +kernel
theorem dL_law_427 : decode cL_law 427 = .ok (.iadd, 1) := by decide +kernel
theorem dL_law_428 : decode cL_law 428 = .ok (.iaload, 1) := by decide +kernel
theorem dL_law_429 : decode cL_law 429 = .ok (.aload_n 3, 1) := by decide +kernel
theorem dL_law_430 : decode cL_law 430 = .ok (.invokestatic 101, 3) := by decide +kernel
theorem dL_law_433 : decode cL_law 433 = .ok (.istore 5, 2) := by decide +kernel
theorem dL_law_435 : decode cL_law 435 = .ok (.aload_n 2, 1) := by decide +kernel
theorem dL_law_436 : decode cL_law 436 = .ok (.aload_n 0, 1) := by decide +kernel
theorem dL_law_437 : decode cL_law 437 = .ok (.iload 4, 2) := by decide +kernel
theorem dL_law_439 : decode cL_law 439 = .ok (.iconst 1, 1) := by decide +kernel
theorem dL_law_440 : decode cL_law 440 = .ok (.iadd, 1) := by decide +kernel
theorem dL_law_441 : decode cL_law 441 = .ok (.iaload, 1) := by decide +kernel
theorem dL_law_442 : decode cL_law 442 = .ok (.aload_n 0, 1) := by decide +kernel
theorem dL_law_443 : decode cL_law 443 = .ok (.iload 4, 2) := by decide +kernel
theorem dL_law_445 : decode cL_law 445 = .ok (.iconst 2, 1) := by decide +kernel
theorem dL_law_446 : decode cL_law 446 = .ok (.iadd, 1) := by decide +kernel
theorem dL_law_447 : decode cL_law 447 = .ok (.iaload, 1) := by decide +kernel
theorem dL_law_448 : decode cL_law 448 = .ok (.invokevirtual 104, 3) := by decide +kernel
theorem dL_law_451 : decode cL_law 451 = .ok (.istore 6, 2) := by decide +kernel
theorem dL_law_453 : decode cL_law 453 = .ok (.aload_n 2, 1) := by decide +kernel
theorem dL_law_454 : decode cL_law 454 = .ok (.invokevirtual 91, 3) := by decide +kernel
theorem dL_law_457 : decode cL_law 457 = .ok (.iload 5, 2) := by decide +kernel
theorem dL_law_459 : decode cL_law 459 = .ok (.if_icmp .eq 5, 3) := by decide +kernel
theorem dL_law_462 : decode cL_law 462 = .ok (.iconst 0, 1) := by decide +kernel
theorem dL_law_463 : decode cL_law 463 = .ok (.ireturn, 1) := by decide +kernel
theorem dL_law_464 : decode cL_law 464 = .ok (.iload 5, 2) := by decide +kernel
theorem dL_law_466 : decode cL_law 466 = .ok (.ifCond .ne 15, 3) := by decide +kernel
theorem dL_law_469 : decode cL_law 469 = .ok (.aload_n 3, 1) := by decide +kernel
theorem dL_law_470 : decode cL_law 470 = .ok (.iconst 0, 1) := by decide +kernel
theorem dL_law_471 : decode cL_law 471 = .ok (.laload, 1) := by decide +kernel
theorem dL_law_472 : decode cL_law 472 = .ok (.iload 6, 2) := by decide +kernel
theorem dL_law_474 : decode cL_law 474 = .ok (.i2l, 1) := by decide +kernel
theorem dL_law_475 : decode cL_law 475 = .ok (.lcmp, 1) := by decide +kernel
theorem dL_law_476 : decode cL_law 476 = .ok (.ifCond .eq 5, 3) := by decide +kernel
theorem dL_law_479 : decode cL_law 479 = .ok (.iconst 0, 1) := by decide +kernel
theorem dL_law_480 : decode cL_law 480 = .ok (.ireturn, 1) := by decide +kernel
theorem dL_law_481 : decode cL_law 481 = .ok (.goto 1082, 3) := by decide +kernel
theorem dL_law_484 : decode cL_law 484 = .ok (.aload_n 1, 1) := by decide +kernel
theorem dL_law_485 : decode cL_law 485 = .ok (.aload_n 0, 1) := by decide +kernel
theorem dL_law_486 : decode cL_law 486 = .ok (.iload 4, 2) := by decide +kernel
theorem dL_law_488 : decode cL_law 488 = .ok (.iconst 1, 1) := by decide +kernel
theorem dL_law_489 : decode cL_law 489 = .ok (.iadd, 1) := by decide +kernel
theorem dL_law_490 : decode cL_law 490 = .ok (.iaload, 1) := by decide +kernel
theorem dL_law_491 : decode cL_law 491 = .ok (.aload_n 3, 1) := by decide +kernel
theorem dL_law_492 : decode cL_law 492 = .ok (.invokestatic 105, 3) := by decide +kernel
theorem dL_law_495 : decode cL_law 495 = .ok (.istore 5, 2) := by decide +kernel
theorem dL_law_497 : decode cL_law 497 = .ok (.aload_n 2, 1) := by decide +kernel
theorem dL_law_498 : decode cL_law 498 = .ok (.aload_n 0, 1) := by decide +kernel
theorem dL_law_499 : decode cL_law 499 = .ok (.iload 4, 2) := by decide +kernel
theorem dL_law_501 : decode cL_law 501 = .ok (.iconst 1, 1) := by decide +kernel
theorem dL_law_502 : decode cL_law 502 = .ok (.iadd, 1) := by decide +kernel
theorem dL_law_503 : decode cL_law 503 = .ok (.iaload, 1) := by decide +kernel
theorem dL_law_504 : decode cL_law 504 = .ok (.invokevirtual 108, 3) := by decide +kernel
theorem dL_law_507 : decode cL_law 507 = .ok (.istore 6, 2) := by decide +kernel
theorem dL_law_509 : decode cL_law 509 = .ok (.aload_n 2, 1) := by decide +kernel
theorem dL_law_510 : decode cL_law 510 = .ok (.invokevirtual 91, 3) := by decide +kernel
theorem dL_law_513 : decode cL_law 513 = .ok (.iload 5, 2) := by decide +kernel
theorem dL_law_515 : decode cL_law 515 = .ok (.if_icmp .eq 5, 3) := by decide +kernel
theorem dL_law_518 : decode cL_law 518 = .ok (.iconst 0, 1) := by decide +kernel
theorem dL_law_519 : decode cL_law 519 = .ok (.ireturn, 1) := by decide +kernel
theorem dL_law_520 : decode cL_law 520 = .ok (.iload 5, 2) := by decide +kernel
theorem dL_law_522 : decode cL_law 522 = .ok (.ifCond .ne 15, 3) := by decide +kernel
theorem dL_law_525 : decode cL_law 525 = .ok (.aload_n 3, 1) := by decide +kernel
theorem dL_law_526 : decode cL_law 526 = .ok (.iconst 0, 1) := by decide +kernel
theorem dL_law_527 : decode cL_law 527 = .ok (.laload, 1) := by decide +kernel
theorem dL_law_528 : decode cL_law 528 = .ok (.iload 6, 2) := by decide +kernel
theorem dL_law_530 : decode cL_law 530 = .ok (.i2l, 1) := by decide +kernel
theorem dL_law_531 : decode cL_law 531 = .ok (.lcmp, 1) := by decide +kernel
theorem dL_law_532 : decode cL_law 532 = .ok (.ifCond .eq 5, 3) := by decide +kernel
theorem dL_law_535 : decode cL_law 535 = .ok (.iconst 0, 1) := by decide +kernel
theorem dL_law_536 : decode cL_law 536 = .ok (.ireturn, 1) := by decide +kernel
theorem dL_law_537 : decode cL_law 537 = .ok (.goto 1026, 3) := by decide +kernel
theorem dL_law_540 : decode cL_law 540 = .ok (.aload_n 1, 1) := by decide +kernel
theorem dL_law_541 : decode cL_law 541 = .ok (.invokevirtual 109, 3) := by decide +kernel
theorem dL_law_544 : decode cL_law 544 = .ok (.aload_n 2, 1) := by decide +kernel
theorem dL_law_545 : decode cL_law 545 = .ok (.invokevirtual 112, 3) := by decide +kernel
theorem dL_law_548 : decode cL_law 548 = .ok (.if_icmp .eq 1015, 3) := by decide +kernel
theorem dL_law_551 : decode cL_law 551 = .ok (.iconst 0, 1) := by decide +kernel
theorem dL_law_552 : decode cL_law 552 = .ok (.ireturn, 1) := by decide +kernel
theorem dL_law_553 : decode cL_law 553 = .ok (.aload_n 1, 1) := by decide +kernel
theorem dL_law_554 : decode cL_law 554 = .ok (.invokevirtual 113, 3) := by decide +kernel
theorem dL_law_557 : decode cL_law 557 = .ok (.aload_n 2, 1) := by decide +kernel
theorem dL_law_558 : decode cL_law 558 = .ok (.invokevirtual 116, 3) := by decide +kernel
theorem dL_law_561 : decode cL_law 561 = .ok (.if_icmp .eq 1002, 3) := by decide +kernel
theorem dL_law_564 : decode cL_law 564 = .ok (.iconst 0, 1) := by decide +kernel
theorem dL_law_565 : decode cL_law 565 = .ok (.ireturn, 1) := by decide +kernel
theorem dL_law_566 : decode cL_law 566 = .ok (.aload_n 1, 1) := by decide +kernel
theorem dL_law_567 : decode cL_law 567 = .ok (.aload_n 0, 1) := by decide +kernel
theorem dL_law_568 : decode cL_law 568 = .ok (.iload 4, 2) := by decide +kernel
theorem dL_law_570 : decode cL_law 570 = .ok (.iconst 1, 1) := by decide +kernel
theorem dL_law_571 : decode cL_law 571 = .ok (.iadd, 1) := by decide +kernel
theorem dL_law_572 : decode cL_law 572 = .ok (.iaload, 1) := by decide +kernel
theorem dL_law_573 : decode cL_law 573 = .ok (.aload_n 3, 1) := by decide +kernel
theorem dL_law_574 : decode cL_law 574 = .ok (.invokestatic 117, 3) := by decide +kernel
theorem dL_law_577 : decode cL_law 577 = .ok (.istore 5, 2) := by decide +kernel
theorem dL_law_579 : decode cL_law 579 = .ok (.aload_n 2, 1) := by decide +kernel
theorem dL_law_580 : decode cL_law 580 = .ok (.aload_n 0, 1) := by decide +kernel
theorem dL_law_581 : decode cL_law 581 = .ok (.iload 4, 2) := by decide +kernel
theorem dL_law_583 : decode cL_law 583 = .ok (.iconst 1, 1) := by decide +kernel
theorem dL_law_584 : decode cL_law 584 = .ok (.iadd, 1) := by decide +kernel
theorem dL_law_585 : decode cL_law 585 = .ok (.iaload, 1) := by decide +kernel
theorem dL_law_586 : decode cL_law 586 = .ok (.invokevirtual 119, 3) := by decide +kernel
theorem dL_law_589 : decode cL_law 589 = .ok (.istore 6, 2) := by decide +kernel
theorem dL_law_591 : decode cL_law 591 = .ok (.aload_n 2, 1) := by decide +kernel
theorem dL_law_592 : decode cL_law 592 = .ok (.invokevirtual 91, 3) := by decide +kernel
theorem dL_law_595 : decode cL_law 595 = .ok (.iload 5, 2) := by decide +kernel
theorem dL_law_597 : decode cL_law 597 = .ok (.if_icmp .eq 5, 3) := by decide +kernel
theorem dL_law_600 : decode cL_law 600 = .ok (.iconst 0, 1) := by decide +kernel
theorem dL_law_601 : decode cL_law 601 = .ok (.ireturn, 1) := by decide +kernel
theorem dL_law_602 : decode cL_law 602 = .ok (.iload 5, 2) := by decide +kernel
theorem dL_law_604 : decode cL_law 604 = .ok (.ifCond .ne 15, 3) := by decide +kernel
theorem dL_law_607 : decode cL_law 607 = .ok (.aload_n 3, 1) := by decide +kernel
theorem dL_law_608 : decode cL_law 608 = .ok (.iconst 0, 1) := by decide +kernel
theorem dL_law_609 : decode cL_law 609 = .ok (.laload, 1) := by decide +kernel
theorem dL_law_610 : decode cL_law 610 = .ok (.iload 6, 2) := by decide +kernel
theorem dL_law_612 : decode cL_law 612 = .ok (.i2l, 1) := by decide +kernel
theorem dL_law_613 : decode cL_law 613 = .ok (.lcmp, 1) := by decide +kernel
theorem dL_law_614 : decode cL_law 614 = .ok (.ifCond .eq 5, 3) := by decide +kernel
theorem dL_law_617 : decode cL_law 617 = .ok (.iconst 0, 1) := by decide +kernel
theorem dL_law_618 : decode cL_law 618 = .ok (.ireturn, 1) := by decide +kernel
theorem dL_law_619 : decode cL_law 619 = .ok (.goto 944, 3) := by decide +kernel
theorem dL_law_622 : decode cL_law 622 = .ok (.aload_n 1, 1) := by decide +kernel
theorem dL_law_623 : decode cL_law 623 = .ok (.aload_n 3, 1) := by decide +kernel
theorem dL_law_624 : decode cL_law 624 = .ok (.invokestatic 120, 3) := by decide +kernel
theorem dL_law_627 : decode cL_law 627 = .ok (.istore 5, 2) := by decide +kernel
theorem dL_law_629 : decode cL_law 629 = .ok (.aload_n 2, 1) := by decide +kernel
theorem dL_law_630 : decode cL_law 630 = .ok (.invokevirtual 123, 3) := by decide +kernel
theorem dL_law_633 : decode cL_law 633 = .ok (.istore 6, 2) := by decide +kernel
theorem dL_law_635 : decode cL_law 635 = .ok (.aload_n 2, 1) := by decide +kernel
theorem dL_law_636 : decode cL_law 636 = .ok (.invokevirtual 91, 3) := by decide +kernel
theorem dL_law_639 : decode cL_law 639 = .ok (.iload 5, 2) := by decide +kernel
theorem dL_law_641 : decode cL_law 641 = .ok (.if_icmp .eq 5, 3) := by decide +kernel
theorem dL_law_644 : decode cL_law 644 = .ok (.iconst 0, 1) := by decide +kernel
theorem dL_law_645 : decode cL_law 645 = .ok (.ireturn, 1) := by decide +kernel
theorem dL_law_646 : decode cL_law 646 = .ok (.iload 5, 2) := by decide +kernel
theorem dL_law_648 : decode cL_law 648 = .ok (.ifCond .ne 15, 3) := by decide +kernel
theorem dL_law_651 : decode cL_law 651 = .ok (.aload_n 3, 1) := by decide +kernel
theorem dL_law_652 : decode cL_law 652 = .ok (.iconst 0, 1) := by decide +kernel
theorem dL_law_653 : decode cL_law 653 = .ok (.laload, 1) := by decide +kernel
theorem dL_law_654 : decode cL_law 654 = .ok (.iload 6, 2) := by decide +kernel
theorem dL_law_656 : decode cL_law 656 = .ok (.i2l, 1) := by decide +kernel
theorem dL_law_657 : decode cL_law 657 = .ok (.lcmp, 1) := by decide +kernel
theorem dL_law_658 : decode cL_law 658 = .ok (.ifCond .eq 5, 3) := by decide +kernel
theorem dL_law_661 : decode cL_law 661 = .ok (.iconst 0, 1) := by decide +kernel
theorem dL_law_662 : decode cL_law 662 = .ok (.ireturn, 1) := by decide +kernel
theorem dL_law_663 : decode cL_law 663 = .ok (.goto 900, 3) := by decide +kernel
theorem dL_law_666 : decode cL_law 666 = .ok (.aload_n 1, 1) := by decide +kernel
theorem dL_law_667 : decode cL_law 667 = .ok (.aload_n 0, 1) := by decide +kernel
theorem dL_law_668 : decode cL_law 668 = .ok (.iload 4, 2) := by decide +kernel
theorem dL_law_670 : decode cL_law 670 = .ok (.iconst 1, 1) := by decide +kernel
theorem dL_law_671 : decode cL_law 671 = .ok (.iadd, 1) := by decide +kernel
theorem dL_law_672 : decode cL_law 672 = .ok (.iaload, 1) := by decide +kernel
theorem dL_law_673 : decode cL_law 673 = .ok (.aload_n 0, 1) := by decide +kernel
theorem dL_law_674 : decode cL_law 674 = .ok (.iload 4, 2) := by decide +kernel
theorem dL_law_676 : decode cL_law 676 = .ok (.iconst 2, 1) := by decide +kernel
theorem dL_law_677 : decode cL_law 677 = .ok (.iadd, 1) := by decide +kernel
theorem dL_law_678 : decode cL_law 678 = .ok (.iaload, 1) := by decide +kernel
theorem dL_law_679 : decode cL_law 679 = .ok (.aload_n 3, 1) := by decide +kernel
theorem dL_law_680 : decode cL_law 680 = .ok (.invokestatic 124, 3) := by decide +kernel
theorem dL_law_683 : decode cL_law 683 = .ok (.istore 5, 2) := by decide +kernel
theorem dL_law_685 : decode cL_law 685 = .ok (.aload_n 2, 1) := by decide +kernel
theorem dL_law_686 : decode cL_law 686 = .ok (.aload_n 0, 1) := by decide +kernel
theorem dL_law_687 : decode cL_law 687 = .ok (.iload 4, 2) := by decide +kernel
theorem dL_law_689 : decode cL_law 689 = .ok (.iconst 1, 1) := by decide +kernel
theorem dL_law_690 : decode cL_law 690 = .ok (.iadd, 1) := by decide +kernel
theorem dL_law_691 : decode cL_law 691 = .ok (.iaload, 1) := by decide +kernel
theorem dL_law_692 : decode cL_law 692 = .ok (.aload_n 0, 1) := by decide +kernel
theorem dL_law_693 : decode cL_law 693 = .ok (.iload 4, 2) := by decide +kernel
theorem dL_law_695 : decode cL_law 695 = .ok (.iconst 2, 1) := by decide +kernel
theorem dL_law_696 : decode cL_law 696 = .ok (.iadd, 1) := by decide +kernel
theorem dL_law_697 : decode cL_law 697 = .ok (.iaload, 1) := by decide +kernel
theorem dL_law_698 : decode cL_law 698 = .ok (.invokevirtual 126, 3) := by decide +kernel
theorem dL_law_701 : decode cL_law 701 = .ok (.istore 6, 2) := by decide +kernel
theorem dL_law_703 : decode cL_law 703 = .ok (.aload_n 2, 1) := by decide +kernel
theorem dL_law_704 : decode cL_law 704 = .ok (.invokevirtual 91, 3) := by decide +kernel
theorem dL_law_707 : decode cL_law 707 = .ok (.iload 5, 2) := by decide +kernel
theorem dL_law_709 : decode cL_law 709 = .ok (.if_icmp .eq 5, 3) := by decide +kernel
theorem dL_law_712 : decode cL_law 712 = .ok (.iconst 0, 1) := by decide +kernel
theorem dL_law_713 : decode cL_law 713 = .ok (.ireturn, 1) := by decide +kernel
theorem dL_law_714 : decode cL_law 714 = .ok (.iload 5, 2) := by decide +kernel
theorem dL_law_716 : decode cL_law 716 = .ok (.ifCond .ne 22, 3) := by decide +kernel
theorem dL_law_719 : decode cL_law 719 = .ok (.aload_n 3, 1) := by decide +kernel
theorem dL_law_720 : decode cL_law 720 = .ok (.iconst 0, 1) := by decide +kernel
theorem dL_law_721 : decode cL_law 721 = .ok (.laload, 1) := by decide +kernel
theorem dL_law_722 : decode cL_law 722 = .ok (.iload 6, 2) := by decide +kernel
theorem dL_law_724 : decode cL_law 724 = .ok (.ifCond .eq 7, 3) := by decide +kernel
theorem dL_law_727 : decode cL_law 727 = .ok (.lconst 1, 1) := by decide +kernel
theorem dL_law_728 : decode cL_law 728 = .ok (.goto 4, 3) := by decide +kernel
theorem dL_law_731 : decode cL_law 731 = .ok (.lconst 0, 1) := by decide +kernel
theorem dL_law_732 : decode cL_law 732 = .ok (.lcmp, 1) := by decide +kernel
theorem dL_law_733 : decode cL_law 733 = .ok (.ifCond .eq 5, 3) := by decide +kernel
theorem dL_law_736 : decode cL_law 736 = .ok (.iconst 0, 1) := by decide +kernel
theorem dL_law_737 : decode cL_law 737 = .ok (.ireturn, 1) := by decide +kernel
theorem dL_law_738 : decode cL_law 738 = .ok (.goto 825, 3) := by decide +kernel
theorem dL_law_741 : decode cL_law 741 = .ok (.aload_n 1, 1) := by decide +kernel
theorem dL_law_742 : decode cL_law 742 = .ok (.aload_n 0, 1) := by decide +kernel
theorem dL_law_743 : decode cL_law 743 = .ok (.iload 4, 2) := by decide +kernel
theorem dL_law_745 : decode cL_law 745 = .ok (.iconst 1, 1) := by decide +kernel
theorem dL_law_746 : decode cL_law 746 = .ok (.iadd, 1) := by decide +kernel
theorem dL_law_747 : decode cL_law 747 = .ok (.iaload, 1) := by decide +kernel
theorem dL_law_748 : decode cL_law 748 = .ok (.aload_n 3, 1) := by decide +kernel
theorem dL_law_749 : decode cL_law 749 = .ok (.invokestatic 127, 3) := by decide +kernel
theorem dL_law_752 : decode cL_law 752 = .ok (.istore 5, 2) := by decide +kernel
theorem dL_law_754 : decode cL_law 754 = .ok (.aload_n 2, 1) := by decide +kernel
theorem dL_law_755 : decode cL_law 755 = .ok (.aload_n 0, 1) := by decide +kernel
theorem dL_law_756 : decode cL_law 756 = .ok (.iload 4, 2) := by decide +kernel
theorem dL_law_758 : decode cL_law 758 = .ok (.iconst 1, 1) := by decide +kernel
theorem dL_law_759 : decode cL_law 759 = .ok (.iadd, 1) := by decide +kernel
theorem dL_law_760 : decode cL_law 760 = .ok (.iaload, 1) := by decide +kernel
theorem dL_law_761 : decode cL_law 761 = .ok (.invokevirtual 129, 3) := by decide +kernel
theorem dL_law_764 : decode cL_law 764 = .ok (.istore 6, 2) := by decide +kernel
theorem dL_law_766 : decode cL_law 766 = .ok (.aload_n 2, 1) := by decide +kernel
theorem dL_law_767 : decode cL_law 767 = .ok (.invokevirtual 91, 3) := by decide +kernel
theorem dL_law_770 : decode cL_law 770 = .ok (.iload 5, 2) := by decide +kernel
theorem dL_law_772 : decode cL_law 772 = .ok (.if_icmp .eq 5, 3) := by decide +kernel
theorem dL_law_775 : decode cL_law 775 = .ok (.iconst 0, 1) := by decide +kernel
theorem dL_law_776 : decode cL_law 776 = .ok (.ireturn, 1) := by decide +kernel
theorem dL_law_777 : decode cL_law 777 = .ok (.iload 5, 2) := by decide +kernel
theorem dL_law_779 : decode cL_law 779 = .ok (.ifCond .ne 15, 3) := by decide +kernel
theorem dL_law_782 : decode cL_law 782 = .ok (.aload_n 3, 1) := by decide +kernel
theorem dL_law_783 : decode cL_law 783 = .ok (.iconst 0, 1) := by decide +kernel
theorem dL_law_784 : decode cL_law 784 = .ok (.laload, 1) := by decide +kernel
theorem dL_law_785 : decode cL_law 785 = .ok (.iload 6, 2) := by decide +kernel
theorem dL_law_787 : decode cL_law 787 = .ok (.i2l, 1) := by decide +kernel
theorem dL_law_788 : decode cL_law 788 = .ok (.lcmp, 1) := by decide +kernel
theorem dL_law_789 : decode cL_law 789 = .ok (.ifCond .eq 5, 3) := by decide +kernel
theorem dL_law_792 : decode cL_law 792 = .ok (.iconst 0, 1) := by decide +kernel
theorem dL_law_793 : decode cL_law 793 = .ok (.ireturn, 1) := by decide +kernel
theorem dL_law_794 : decode cL_law 794 = .ok (.goto 769, 3) := by decide +kernel
theorem dL_law_797 : decode cL_law 797 = .ok (.aload_n 1, 1) := by decide +kernel
theorem dL_law_798 : decode cL_law 798 = .ok (.aload_n 0, 1) := by decide +kernel
theorem dL_law_799 : decode cL_law 799 = .ok (.iload 4, 2) := by decide +kernel
theorem dL_law_801 : decode cL_law 801 = .ok (.iconst 1, 1) := by decide +kernel
theorem dL_law_802 : decode cL_law 802 = .ok (.iadd, 1) := by decide +kernel
theorem dL_law_803 : decode cL_law 803 = .ok (.iaload, 1) := by decide +kernel
theorem dL_law_804 : decode cL_law 804 = .ok (.aload_n 3, 1) := by decide +kernel
theorem dL_law_805 : decode cL_law 805 = .ok (.invokestatic 130, 3) := by decide +kernel
theorem dL_law_808 : decode cL_law 808 = .ok (.istore 5, 2) := by decide +kernel
theorem dL_law_810 : decode cL_law 810 = .ok (.aload_n 2, 1) := by decide +kernel
theorem dL_law_811 : decode cL_law 811 = .ok (.aload_n 0, 1) := by decide +kernel
theorem dL_law_812 : decode cL_law 812 = .ok (.iload 4, 2) := by decide +kernel
theorem dL_law_814 : decode cL_law 814 = .ok (.iconst 1, 1) := by decide +kernel
theorem dL_law_815 : decode cL_law 815 = .ok (.iadd, 1) := by decide +kernel
theorem dL_law_816 : decode cL_law 816 = .ok (.iaload, 1) := by decide +kernel
theorem dL_law_817 : decode cL_law 817 = .ok (.invokevirtual 132, 3) := by decide +kernel
theorem dL_law_820 : decode cL_law 820 = .ok (.istore 6, 2) := by decide +kernel
theorem dL_law_822 : decode cL_law 822 = .ok (.aload_n 2, 1) := by decide +kernel
theorem dL_law_823 : decode cL_law 823 = .ok (.invokevirtual 91, 3) := by decide +kernel
theorem dL_law_826 : decode cL_law 826 = .ok (.iload 5, 2) := by decide +kernel
theorem dL_law_828 : decode cL_law 828 = .ok (.if_icmp .eq 5, 3) := by decide +kernel
theorem dL_law_831 : decode cL_law 831 = .ok (.iconst 0, 1) := by decide +kernel
theorem dL_law_832 : decode cL_law 832 = .ok (.ireturn, 1) := by decide +kernel
theorem dL_law_833 : decode cL_law 833 = .ok (.iload 5, 2) := by decide +kernel
theorem dL_law_835 : decode cL_law 835 = .ok (.ifCond .ne 15, 3) := by decide +kernel
theorem dL_law_838 : decode cL_law 838 = .ok (.aload_n 3, 1) := by decide +kernel
theorem dL_law_839 : decode cL_law 839 = .ok (.iconst 0, 1) := by decide +kernel
theorem dL_law_840 : decode cL_law 840 = .ok (.laload, 1) := by decide +kernel
theorem dL_law_841 : decode cL_law 841 = .ok (.iload 6, 2) := by decide +kernel
theorem dL_law_843 : decode cL_law 843 = .ok (.i2l, 1) := by decide +kernel
theorem dL_law_844 : decode cL_law 844 = .ok (.lcmp, 1) := by decide +kernel
theorem dL_law_845 : decode cL_law 845 = .ok (.ifCond .eq 5, 3) := by decide +kernel
theorem dL_law_848 : decode cL_law 848 = .ok (.iconst 0, 1) := by decide +kernel
theorem dL_law_849 : decode cL_law 849 = .ok (.ireturn, 1) := by decide +kernel
theorem dL_law_850 : decode cL_law 850 = .ok (.goto 713, 3) := by decide +kernel
theorem dL_law_853 : decode cL_law 853 = .ok (.aload_n 1, 1) := by decide +kernel
theorem dL_law_854 : decode cL_law 854 = .ok (.aload_n 0, 1) := by decide +kernel
theorem dL_law_855 : decode cL_law 855 = .ok (.iload 4, 2) := by decide +kernel
theorem dL_law_857 : decode cL_law 857 = .ok (.iconst 1, 1) := by decide +kernel
theorem dL_law_858 : decode cL_law 858 = .ok (.iadd, 1) := by decide +kernel
theorem dL_law_859 : decode cL_law 859 = .ok (.iaload, 1) := by decide +kernel
theorem dL_law_860 : decode cL_law 860 = .ok (.aload_n 0, 1) := by decide +kernel
theorem dL_law_861 : decode cL_law 861 = .ok (.iload 4, 2) := by decide +kernel
theorem dL_law_863 : decode cL_law 863 = .ok (.iconst 2, 1) := by decide +kernel
theorem dL_law_864 : decode cL_law 864 = .ok (.iadd, 1) := by decide +kernel
theorem dL_law_865 : decode cL_law 865 = .ok (.iaload, 1) := by decide +kernel
theorem dL_law_866 : decode cL_law 866 = .ok (.aload_n 3, 1) := by decide +kernel
theorem dL_law_867 : decode cL_law 867 = .ok (.invokestatic 133, 3) := by decide +kernel
theorem dL_law_870 : decode cL_law 870 = .ok (.istore 5, 2) := by decide +kernel
theorem dL_law_872 : decode cL_law 872 = .ok (.aload_n 2, 1) := by decide +kernel
theorem dL_law_873 : decode cL_law 873 = .ok (.aload_n 0, 1) := by decide +kernel
theorem dL_law_874 : decode cL_law 874 = .ok (.iload 4, 2) := by decide +kernel
theorem dL_law_876 : decode cL_law 876 = .ok (.iconst 1, 1) := by decide +kernel
theorem dL_law_877 : decode cL_law 877 = .ok (.iadd, 1) := by decide +kernel
theorem dL_law_878 : decode cL_law 878 = .ok (.iaload, 1) := by decide +kernel
theorem dL_law_879 : decode cL_law 879 = .ok (.aload_n 0, 1) := by decide +kernel
theorem dL_law_880 : decode cL_law 880 = .ok (.iload 4, 2) := by decide +kernel
theorem dL_law_882 : decode cL_law 882 = .ok (.iconst 2, 1) := by decide +kernel
theorem dL_law_883 : decode cL_law 883 = .ok (.iadd, 1) := by decide +kernel
theorem dL_law_884 : decode cL_law 884 = .ok (.iaload, 1) := by decide +kernel
theorem dL_law_885 : decode cL_law 885 = .ok (.invokevirtual 135, 3) := by decide +kernel
theorem dL_law_888 : decode cL_law 888 = .ok (.istore 6, 2) := by decide +kernel
theorem dL_law_890 : decode cL_law 890 = .ok (.aload_n 2, 1) := by decide +kernel
theorem dL_law_891 : decode cL_law 891 = .ok (.invokevirtual 91, 3) := by decide +kernel
theorem dL_law_894 : decode cL_law 894 = .ok (.iload 5, 2) := by decide +kernel
theorem dL_law_896 : decode cL_law 896 = .ok (.if_icmp .eq 5, 3) := by decide +kernel
theorem dL_law_899 : decode cL_law 899 = .ok (.iconst 0, 1) := by decide +kernel
theorem dL_law_900 : decode cL_law 900 = .ok (.ireturn, 1) := by decide +kernel
theorem dL_law_901 : decode cL_law 901 = .ok (.iload 5, 2) := by decide +kernel
theorem dL_law_903 : decode cL_law 903 = .ok (.ifCond .ne 15, 3) := by decide +kernel
theorem dL_law_906 : decode cL_law 906 = .ok (.aload_n 3, 1) := by decide +kernel
theorem dL_law_907 : decode cL_law 907 = .ok (.iconst 0, 1) := by decide +kernel
theorem dL_law_908 : decode cL_law 908 = .ok (.laload, 1) := by decide +kernel
theorem dL_law_909 : decode cL_law 909 = .ok (.iload 6, 2) := by decide +kernel
theorem dL_law_911 : decode cL_law 911 = .ok (.i2l, 1) := by decide +kernel
theorem dL_law_912 : decode cL_law 912 = .ok (.lcmp, 1) := by decide +kernel
theorem dL_law_913 : decode cL_law 913 = .ok (.ifCond .eq 5, 3) := by decide +kernel
theorem dL_law_916 : decode cL_law 916 = .ok (.iconst 0, 1) := by decide +kernel
theorem dL_law_917 : decode cL_law 917 = .ok (.ireturn, 1) := by decide +kernel
theorem dL_law_918 : decode cL_law 918 = .ok (.goto 645, 3) := by decide +kernel
theorem dL_law_921 : decode cL_law 921 = .ok (.aload_n 1, 1) := by decide +kernel
theorem dL_law_922 : decode cL_law 922 = .ok (.aload_n 0, 1) := by decide +kernel
theorem dL_law_923 : decode cL_law 923 = .ok (.iload 4, 2) := by decide +kernel
theorem dL_law_925 : decode cL_law 925 = .ok (.iconst 1, 1) := by decide +kernel
theorem dL_law_926 : decode cL_law 926 = .ok (.iadd, 1) := by decide +kernel
theorem dL_law_927 : decode cL_law 927 = .ok (.iaload, 1) := by decide +kernel
theorem dL_law_928 : decode cL_law 928 = .ok (.aload_n 3, 1) := by decide +kernel
theorem dL_law_929 : decode cL_law 929 = .ok (.invokestatic 136, 3) := by decide +kernel
theorem dL_law_932 : decode cL_law 932 = .ok (.istore 5, 2) := by decide +kernel
theorem dL_law_934 : decode cL_law 934 = .ok (.aload_n 2, 1) := by decide +kernel
theorem dL_law_935 : decode cL_law 935 = .ok (.aload_n 0, 1) := by decide +kernel
theorem dL_law_936 : decode cL_law 936 = .ok (.iload 4, 2) := by decide +kernel
theorem dL_law_938 : decode cL_law 938 = .ok (.iconst 1, 1) := by decide +kernel
theorem dL_law_939 : decode cL_law 939 = .ok (.iadd, 1) := by decide +kernel
theorem dL_law_940 : decode cL_law 940 = .ok (.iaload, 1) := by decide +kernel
theorem dL_law_941 : decode cL_law 941 = .ok (.invokevirtual 138, 3) := by decide +kernel
theorem dL_law_944 : decode cL_law 944 = .ok (.istore 6, 2) := by decide +kernel
theorem dL_law_946 : decode cL_law 946 = .ok (.aload_n 2, 1) := by decide +kernel
theorem dL_law_947 : decode cL_law 947 = .ok (.invokevirtual 91, 3) := by decide +kernel
theorem dL_law_950 : decode cL_law 950 = .ok (.iload 5, 2) := by decide +kernel
theorem dL_law_952 : decode cL_law 952 = .ok (.if_icmp .eq 5, 3) := by decide +kernel
theorem dL_law_955 : decode cL_law 955 = .ok (.iconst 0, 1) := by decide +kernel
theorem dL_law_956 : decode cL_law 956 = .ok (.ireturn, 1) := by decide +kernel
theorem dL_law_957 : decode cL_law 957 = .ok (.iload 5, 2) := by decide +kernel
theorem dL_law_959 : decode cL_law 959 = .ok (.ifCond .ne 15, 3) := by decide +kernel
theorem dL_law_962 : decode cL_law 962 = .ok (.aload_n 3, 1) := by decide +kernel
theorem dL_law_963 : decode cL_law 963 = .ok (.iconst 0, 1) := by decide +kernel
theorem dL_law_964 : decode cL_law 964 = .ok (.laload, 1) := by decide +kernel
theorem dL_law_965 : decode cL_law 965 = .ok (.iload 6, 2) := by decide +kernel
theorem dL_law_967 : decode cL_law 967 = .ok (.i2l, 1) := by decide +kernel
theorem dL_law_968 : decode cL_law 968 = .ok (.lcmp, 1) := by decide +kernel
theorem dL_law_969 : decode cL_law 969 = .ok (.ifCond .eq 5, 3) := by decide +kernel
theorem dL_law_972 : decode cL_law 972 = .ok (.iconst 0, 1) := by decide +kernel
theorem dL_law_973 : decode cL_law 973 = .ok (.ireturn, 1) := by decide +kernel
theorem dL_law_974 : decode cL_law 974 = .ok (.goto 589, 3) := by decide +kernel
theorem dL_law_977 : decode cL_law 977 = .ok (.aload_n 1, 1) := by decide +kernel
theorem dL_law_978 : decode cL_law 978 = .ok (.invokevirtual 139, 3) := by decide +kernel
theorem dL_law_981 : decode cL_law 981 = .ok (.aload_n 2, 1) := by decide +kernel
theorem dL_law_982 : decode cL_law 982 = .ok (.invokevirtual 142, 3) := by decide +kernel
theorem dL_law_985 : decode cL_law 985 = .ok (.if_icmp .eq 578, 3) := by decide +kernel
theorem dL_law_988 : decode cL_law 988 = .ok (.iconst 0, 1) := by decide +kernel
theorem dL_law_989 : decode cL_law 989 = .ok (.ireturn, 1) := by decide +kernel
theorem dL_law_990 : decode cL_law 990 = .ok (.aload_n 1, 1) := by decide +kernel
theorem dL_law_991 : decode cL_law 991 = .ok (.aload_n 0, 1) := by decide +kernel
theorem dL_law_992 : decode cL_law 992 = .ok (.iload 4, 2) := by decide +kernel
theorem dL_law_994 : decode cL_law 994 = .ok (.iconst 1, 1) := by decide +kernel
theorem dL_law_995 : decode cL_law 995 = .ok (.iadd, 1) := by decide +kernel
theorem dL_law_996 : decode cL_law 996 = .ok (.iaload, 1) := by decide +kernel
theorem dL_law_997 : decode cL_law 997 = .ok (.aload_n 0, 1) := by decide +kernel
theorem dL_law_998 : decode cL_law 998 = .ok (.iload 4, 2) := by decide +kernel
theorem dL_law_1000 : decode cL_law 1000 = .ok (.iconst 2, 1) := by decide +kernel
theorem dL_law_1001 : decode cL_law 1001 = .ok (.iadd, 1) := by decide +kernel
theorem dL_law_1002 : decode cL_law 1002 = .ok (.iaload, 1) := by decide +kernel
theorem dL_law_1003 : decode cL_law 1003 = .ok (.aload_n 3, 1) := by decide +kernel
theorem dL_law_1004 : decode cL_law 1004 = .ok (.invokestatic 143, 3) := by decide +kernel
theorem dL_law_1007 : decode cL_law 1007 = .ok (.istore 5, 2) := by decide +kernel
theorem dL_law_1009 : decode cL_law 1009 = .ok (.aload_n 2, 1) := by decide +kernel
theorem dL_law_1010 : decode cL_law 1010 = .ok (.aload_n 0, 1) := by decide +kernel
theorem dL_law_1011 : decode cL_law 1011 = .ok (.iload 4, 2) := by decide +kernel
theorem dL_law_1013 : decode cL_law 1013 = .ok (.iconst 1, 1) := by decide +kernel
theorem dL_law_1014 : decode cL_law 1014 = .ok (.iadd, 1) := by decide +kernel
theorem dL_law_1015 : decode cL_law 1015 = .ok (.iaload, 1) := by decide +kernel
theorem dL_law_1016 : decode cL_law 1016 = .ok (.aload_n 0, 1) := by decide +kernel
theorem dL_law_1017 : decode cL_law 1017 = .ok (.iload 4, 2) := by decide +kernel
theorem dL_law_1019 : decode cL_law 1019 = .ok (.iconst 2, 1) := by decide +kernel
theorem dL_law_1020 : decode cL_law 1020 = .ok (.iadd, 1) := by decide +kernel
theorem dL_law_1021 : decode cL_law 1021 = .ok (.iaload, 1) := by decide +kernel
theorem dL_law_1022 : decode cL_law 1022 = .ok (.invokevirtual 145, 3) := by decide +kernel
theorem dL_law_1025 : decode cL_law 1025 = .ok (.istore 6, 2) := by decide +kernel
theorem dL_law_1027 : decode cL_law 1027 = .ok (.aload_n 2, 1) := by decide +kernel
theorem dL_law_1028 : decode cL_law 1028 = .ok (.invokevirtual 91, 3) := by decide +kernel
theorem dL_law_1031 : decode cL_law 1031 = .ok (.iload 5, 2) := by decide +kernel
theorem dL_law_1033 : decode cL_law 1033 = .ok (.if_icmp .eq 5, 3) := by decide +kernel
theorem dL_law_1036 : decode cL_law 1036 = .ok (.iconst 0, 1) := by decide +kernel
theorem dL_law_1037 : decode cL_law 1037 = .ok (.ireturn, 1) := by decide +kernel
theorem dL_law_1038 : decode cL_law 1038 = .ok (.iload 5, 2) := by decide +kernel
theorem dL_law_1040 : decode cL_law 1040 = .ok (.ifCond .ne 15, 3) := by decide +kernel
theorem dL_law_1043 : decode cL_law 1043 = .ok (.aload_n 3, 1) := by decide +kernel
theorem dL_law_1044 : decode cL_law 1044 = .ok (.iconst 0, 1) := by decide +kernel
theorem dL_law_1045 : decode cL_law 1045 = .ok (.laload, 1) := by decide +kernel
theorem dL_law_1046 : decode cL_law 1046 = .ok (.iload 6, 2) := by decide +kernel
theorem dL_law_1048 : decode cL_law 1048 = .ok (.i2l, 1) := by decide +kernel
theorem dL_law_1049 : decode cL_law 1049 = .ok (.lcmp, 1) := by decide +kernel
theorem dL_law_1050 : decode cL_law 1050 = .ok (.ifCond .eq 5, 3) := by decide +kernel
theorem dL_law_1053 : decode cL_law 1053 = .ok (.iconst 0, 1) := by decide +kernel
theorem dL_law_1054 : decode cL_law 1054 = .ok (.ireturn, 1) := by decide +kernel
theorem dL_law_1055 : decode cL_law 1055 = .ok (.goto 508, 3) := by decide +kernel
theorem dL_law_1058 : decode cL_law 1058 = .ok (.aload_n 1, 1) := by decide +kernel
theorem dL_law_1059 : decode cL_law 1059 = .ok (.invokevirtual 146, 3) := by decide +kernel
theorem dL_law_1062 : decode cL_law 1062 = .ok (.aload_n 2, 1) := by decide +kernel
theorem dL_law_1063 : decode cL_law 1063 = .ok (.invokevirtual 149, 3) := by decide +kernel
theorem dL_law_1066 : decode cL_law 1066 = .ok (.if_icmp .eq 497, 3) := by decide +kernel
theorem dL_law_1069 : decode cL_law 1069 = .ok (.iconst 0, 1) := by decide +kernel
theorem dL_law_1070 : decode cL_law 1070 = .ok (.ireturn, 1) := by decide +kernel
theorem dL_law_1071 : decode cL_law 1071 = .ok (.aload_n 1, 1) := by decide +kernel
theorem dL_law_1072 : decode cL_law 1072 = .ok (.invokevirtual 150, 3) := by decide +kernel
theorem dL_law_1075 : decode cL_law 1075 = .ok (.aload_n 2, 1) := by decide +kernel
theorem dL_law_1076 : decode cL_law 1076 = .ok (.invokevirtual 153, 3) := by decide +kernel
theorem dL_law_1079 : decode cL_law 1079 = .ok (.if_icmp .eq 484, 3) := by decide +kernel
theorem dL_law_1082 : decode cL_law 1082 = .ok (.iconst 0, 1) := by decide +kernel
theorem dL_law_1083 : decode cL_law 1083 = .ok (.ireturn, 1) := by decide +kernel
theorem dL_law_1084 : decode cL_law 1084 = .ok (.aload_n 1, 1) := by decide +kernel
theorem dL_law_1085 : decode cL_law 1085 = .ok (.invokevirtual 154, 3) := by decide +kernel
theorem dL_law_1088 : decode cL_law 1088 = .ok (.aload_n 2, 1) := by decide +kernel
theorem dL_law_1089 : decode cL_law 1089 = .ok (.invokevirtual 157, 3) := by decide +kernel
theorem dL_law_1092 : decode cL_law 1092 = .ok (.if_icmp .eq 471, 3) := by decide +kernel
theorem dL_law_1095 : decode cL_law 1095 = .ok (.iconst 0, 1) := by decide +kernel
theorem dL_law_1096 : decode cL_law 1096 = .ok (.ireturn, 1) := by decide +kernel
theorem dL_law_1097 : decode cL_law 1097 = .ok (.aload_n 1, 1) := by decide +kernel
theorem dL_law_1098 : decode cL_law 1098 = .ok (.aload_n 0, 1) := by decide +kernel
theorem dL_law_1099 : decode cL_law 1099 = .ok (.iload 4, 2) := by decide +kernel
theorem dL_law_1101 : decode cL_law 1101 = .ok (.iconst 1, 1) := by decide +kernel
theorem dL_law_1102 : decode cL_law 1102 = .ok (.iadd, 1) := by decide +kernel
theorem dL_law_1103 : decode cL_law 1103 = .ok (.iaload, 1) := by decide +kernel
theorem dL_law_1104 : decode cL_law 1104 = .ok (.aload_n 3, 1) := by decide +kernel
theorem dL_law_1105 : decode cL_law 1105 = .ok (.invokestatic 158, 3) := by decide +kernel
theorem dL_law_1108 : decode cL_law 1108 = .ok (.istore 5, 2) := by decide +kernel
theorem dL_law_1110 : decode cL_law 1110 = .ok (.aload_n 2, 1) := by decide +kernel
theorem dL_law_1111 : decode cL_law 1111 = .ok (.aload_n 0, 1) := by decide +kernel
theorem dL_law_1112 : decode cL_law 1112 = .ok (.iload 4, 2) := by decide +kernel
theorem dL_law_1114 : decode cL_law 1114 = .ok (.iconst 1, 1) := by decide +kernel
theorem dL_law_1115 : decode cL_law 1115 = .ok (.iadd, 1) := by decide +kernel
theorem dL_law_1116 : decode cL_law 1116 = .ok (.iaload, 1) := by decide +kernel
theorem dL_law_1117 : decode cL_law 1117 = .ok (.invokevirtual 160, 3) := by decide +kernel
theorem dL_law_1120 : decode cL_law 1120 = .ok (.istore 6, 2) := by decide +kernel
theorem dL_law_1122 : decode cL_law 1122 = .ok (.aload_n 2, 1) := by decide +kernel
theorem dL_law_1123 : decode cL_law 1123 = .ok (.invokevirtual 91, 3) := by decide +kernel
theorem dL_law_1126 : decode cL_law 1126 = .ok (.iload 5, 2) := by decide +kernel
theorem dL_law_1128 : decode cL_law 1128 = .ok (.if_icmp .eq 5, 3) := by decide +kernel
theorem dL_law_1131 : decode cL_law 1131 = .ok (.iconst 0, 1) := by decide +kernel
theorem dL_law_1132 : decode cL_law 1132 = .ok (.ireturn, 1) := by decide +kernel
theorem dL_law_1133 : decode cL_law 1133 = .ok (.iload 5, 2) := by decide +kernel
theorem dL_law_1135 : decode cL_law 1135 = .ok (.ifCond .ne 15, 3) := by decide +kernel
theorem dL_law_1138 : decode cL_law 1138 = .ok (.aload_n 3, 1) := by decide +kernel
theorem dL_law_1139 : decode cL_law 1139 = .ok (.iconst 0, 1) := by decide +kernel
theorem dL_law_1140 : decode cL_law 1140 = .ok (.laload, 1) := by decide +kernel
theorem dL_law_1141 : decode cL_law 1141 = .ok (.iload 6, 2) := by decide +kernel
theorem dL_law_1143 : decode cL_law 1143 = .ok (.i2l, 1) := by decide +kernel
theorem dL_law_1144 : decode cL_law 1144 = .ok (.lcmp, 1) := by decide +kernel
theorem dL_law_1145 : decode cL_law 1145 = .ok (.ifCond .eq 5, 3) := by decide +kernel
theorem dL_law_1148 : decode cL_law 1148 = .ok (.iconst 0, 1) := by decide +kernel
theorem dL_law_1149 : decode cL_law 1149 = .ok (.ireturn, 1) := by decide +kernel
theorem dL_law_1150 : decode cL_law 1150 = .ok (.goto 413, 3) := by decide +kernel
theorem dL_law_1153 : decode cL_law 1153 = .ok (.aload_n 1, 1) := by decide +kernel
theorem dL_law_1154 : decode cL_law 1154 = .ok (.invokevirtual 161, 3) := by decide +kernel
theorem dL_law_1157 : decode cL_law 1157 = .ok (.aload_n 2, 1) := by decide +kernel
theorem dL_law_1158 : decode cL_law 1158 = .ok (.invokevirtual 164, 3) := by decide +kernel
theorem dL_law_1161 : decode cL_law 1161 = .ok (.if_icmp .eq 402, 3) := by decide +kernel
theorem dL_law_1164 : decode cL_law 1164 = .ok (.iconst 0, 1) := by decide +kernel
theorem dL_law_1165 : decode cL_law 1165 = .ok (.ireturn, 1) := by decide +kernel
theorem dL_law_1166 : decode cL_law 1166 = .ok (.aload_n 1, 1) := by decide +kernel
theorem dL_law_1167 : decode cL_law 1167 = .ok (.aload_n 0, 1) := by decide +kernel
theorem dL_law_1168 : decode cL_law 1168 = .ok (.iload 4, 2) := by decide +kernel
theorem dL_law_1170 : decode cL_law 1170 = .ok (.iconst 1, 1) := by decide +kernel
theorem dL_law_1171 : decode cL_law 1171 = .ok (.iadd, 1) := by decide +kernel
theorem dL_law_1172 : decode cL_law 1172 = .ok (.iaload, 1) := by decide +kernel
theorem dL_law_1173 : decode cL_law 1173 = .ok (.aload_n 3, 1) := by decide +kernel
theorem dL_law_1174 : decode cL_law 1174 = .ok (.invokestatic 165, 3) := by decide +kernel
theorem dL_law_1177 : decode cL_law 1177 = .ok (.istore 5, 2) := by decide +kernel
theorem dL_law_1179 : decode cL_law 1179 = .ok (.aload_n 2, 1) := by decide +kernel
theorem dL_law_1180 : decode cL_law 1180 = .ok (.aload_n 0, 1) := by decide +kernel
theorem dL_law_1181 : decode cL_law 1181 = .ok (.iload 4, 2) := by decide +kernel
theorem dL_law_1183 : decode cL_law 1183 = .ok (.iconst 1, 1) := by decide +kernel
theorem dL_law_1184 : decode cL_law 1184 = .ok (.iadd, 1) := by decide +kernel
theorem dL_law_1185 : decode cL_law 1185 = .ok (.iaload, 1) := by decide +kernel
theorem dL_law_1186 : decode cL_law 1186 = .ok (.invokevirtual 167, 3) := by decide +kernel
theorem dL_law_1189 : decode cL_law 1189 = .ok (.istore 6, 2) := by decide +kernel
theorem dL_law_1191 : decode cL_law 1191 = .ok (.aload_n 2, 1) := by decide +kernel
theorem dL_law_1192 : decode cL_law 1192 = .ok (.invokevirtual 91, 3) := by decide +kernel
theorem dL_law_1195 : decode cL_law 1195 = .ok (.iload 5, 2) := by decide +kernel
theorem dL_law_1197 : decode cL_law 1197 = .ok (.if_icmp .eq 5, 3) := by decide +kernel
theorem dL_law_1200 : decode cL_law 1200 = .ok (.iconst 0, 1) := by decide +kernel
theorem dL_law_1201 : decode cL_law 1201 = .ok (.ireturn, 1) := by decide +kernel
theorem dL_law_1202 : decode cL_law 1202 = .ok (.iload 5, 2) := by decide +kernel
theorem dL_law_1204 : decode cL_law 1204 = .ok (.ifCond .ne 15, 3) := by decide +kernel
theorem dL_law_1207 : decode cL_law 1207 = .ok (.aload_n 3, 1) := by decide +kernel
theorem dL_law_1208 : decode cL_law 1208 = .ok (.iconst 0, 1) := by decide +kernel
theorem dL_law_1209 : decode cL_law 1209 = .ok (.laload, 1) := by decide +kernel
theorem dL_law_1210 : decode cL_law 1210 = .ok (.iload 6, 2) := by decide +kernel
theorem dL_law_1212 : decode cL_law 1212 = .ok (.i2l, 1) := by decide +kernel
theorem dL_law_1213 : decode cL_law 1213 = .ok (.lcmp, 1) := by decide +kernel
theorem dL_law_1214 : decode cL_law 1214 = .ok (.ifCond .eq 5, 3) := by decide +kernel
theorem dL_law_1217 : decode cL_law 1217 = .ok (.iconst 0, 1) := by decide +kernel
theorem dL_law_1218 : decode cL_law 1218 = .ok (.ireturn, 1) := by decide +kernel
theorem dL_law_1219 : decode cL_law 1219 = .ok (.goto 344, 3) := by decide +kernel
theorem dL_law_1222 : decode cL_law 1222 = .ok (.aload_n 1, 1) := by decide +kernel
theorem dL_law_1223 : decode cL_law 1223 = .ok (.aload_n 0, 1) := by decide +kernel
theorem dL_law_1224 : decode cL_law 1224 = .ok (.iload 4, 2) := by decide +kernel
theorem dL_law_1226 : decode cL_law 1226 = .ok (.iconst 1, 1) := by decide +kernel
theorem dL_law_1227 : decode cL_law 1227 = .ok (.iadd, 1) := by decide +kernel
theorem dL_law_1228 : decode cL_law 1228 = .ok (.iaload, 1) := by decide +kernel
theorem dL_law_1229 : decode cL_law 1229 = .ok (.aload_n 0, 1) := by decide +kernel
theorem dL_law_1230 : decode cL_law 1230 = .ok (.iload 4, 2) := by decide +kernel
theorem dL_law_1232 : decode cL_law 1232 = .ok (.iconst 2, 1) := by decide +kernel
theorem dL_law_1233 : decode cL_law 1233 = .ok (.iadd, 1) := by decide +kernel
theorem dL_law_1234 : decode cL_law 1234 = .ok (.iaload, 1) := by decide +kernel
theorem dL_law_1235 : decode cL_law 1235 = .ok (.aload_n 3, 1) := by decide +kernel
theorem dL_law_1236 : decode cL_law 1236 = .ok (.invokestatic 168, 3) := by decide +kernel
theorem dL_law_1239 : decode cL_law 1239 = .ok (.istore 5, 2) := by decide +kernel
theorem dL_law_1241 : decode cL_law 1241 = .ok (.aload_n 2, 1) := by decide +kernel
theorem dL_law_1242 : decode cL_law 1242 = .ok (.aload_n 0, 1) := by decide +kernel
theorem dL_law_1243 : decode cL_law 1243 = .ok (.iload 4, 2) := by decide +kernel
theorem dL_law_1245 : decode cL_law 1245 = .ok (.iconst 1, 1) := by decide +kernel
theorem dL_law_1246 : decode cL_law 1246 = .ok (.iadd, 1) := by decide +kernel
theorem dL_law_1247 : decode cL_law 1247 = .ok (.iaload, 1) := by decide +kernel
theorem dL_law_1248 : decode cL_law 1248 = .ok (.aload_n 0, 1) := by decide +kernel
theorem dL_law_1249 : decode cL_law 1249 = .ok (.iload 4, 2) := by decide +kernel
theorem dL_law_1251 : decode cL_law 1251 = .ok (.iconst 2, 1) := by decide +kernel
theorem dL_law_1252 : decode cL_law 1252 = .ok (.iadd, 1) := by decide +kernel
theorem dL_law_1253 : decode cL_law 1253 = .ok (.iaload, 1) := by decide +kernel
theorem dL_law_1254 : decode cL_law 1254 = .ok (.invokevirtual 170, 3) := by decide +kernel
theorem dL_law_1257 : decode cL_law 1257 = .ok (.istore 6, 2) := by decide +kernel
theorem dL_law_1259 : decode cL_law 1259 = .ok (.aload_n 2, 1) := by decide +kernel
theorem dL_law_1260 : decode cL_law 1260 = .ok (.invokevirtual 91, 3) := by decide +kernel
theorem dL_law_1263 : decode cL_law 1263 = .ok (.iload 5, 2) := by decide +kernel
theorem dL_law_1265 : decode cL_law 1265 = .ok (.if_icmp .eq 5, 3) := by decide +kernel
theorem dL_law_1268 : decode cL_law 1268 = .ok (.iconst 0, 1) := by decide +kernel
theorem dL_law_1269 : decode cL_law 1269 = .ok (.ireturn, 1) := by decide +kernel
theorem dL_law_1270 : decode cL_law 1270 = .ok (.iload 5, 2) := by decide +kernel
theorem dL_law_1272 : decode cL_law 1272 = .ok (.ifCond .ne 15, 3) := by decide +kernel
theorem dL_law_1275 : decode cL_law 1275 = .ok (.aload_n 3, 1) := by decide +kernel
theorem dL_law_1276 : decode cL_law 1276 = .ok (.iconst 0, 1) := by decide +kernel
theorem dL_law_1277 : decode cL_law 1277 = .ok (.laload, 1) := by decide +kernel
theorem dL_law_1278 : decode cL_law 1278 = .ok (.iload 6, 2) := by decide +kernel
theorem dL_law_1280 : decode cL_law 1280 = .ok (.i2l, 1) := by decide +kernel
theorem dL_law_1281 : decode cL_law 1281 = .ok (.lcmp, 1) := by decide +kernel
theorem dL_law_1282 : decode cL_law 1282 = .ok (.ifCond .eq 5, 3) := by decide +kernel
theorem dL_law_1285 : decode cL_law 1285 = .ok (.iconst 0, 1) := by decide +kernel
theorem dL_law_1286 : decode cL_law 1286 = .ok (.ireturn, 1) := by decide +kernel
theorem dL_law_1287 : decode cL_law 1287 = .ok (.goto 276, 3) := by decide +kernel
theorem dL_law_1290 : decode cL_law 1290 = .ok (.aload_n 1, 1) := by decide +kernel
theorem dL_law_1291 : decode cL_law 1291 = .ok (.aload_n 0, 1) := by decide +kernel
theorem dL_law_1292 : decode cL_law 1292 = .ok (.iload 4, 2) := by decide +kernel
theorem dL_law_1294 : decode cL_law 1294 = .ok (.iconst 1, 1) := by decide +kernel
theorem dL_law_1295 : decode cL_law 1295 = .ok (.iadd, 1) := by decide +kernel
theorem dL_law_1296 : decode cL_law 1296 = .ok (.iaload, 1) := by decide +kernel
theorem dL_law_1297 : decode cL_law 1297 = .ok (.aload_n 0, 1) := by decide +kernel
theorem dL_law_1298 : decode cL_law 1298 = .ok (.iload 4, 2) := by decide +kernel
theorem dL_law_1300 : decode cL_law 1300 = .ok (.iconst 2, 1) := by decide +kernel
theorem dL_law_1301 : decode cL_law 1301 = .ok (.iadd, 1) := by decide +kernel
theorem dL_law_1302 : decode cL_law 1302 = .ok (.iaload, 1) := by decide +kernel
theorem dL_law_1303 : decode cL_law 1303 = .ok (.aload_n 3, 1) := by decide +kernel
theorem dL_law_1304 : decode cL_law 1304 = .ok (.invokestatic 171, 3) := by decide +kernel
theorem dL_law_1307 : decode cL_law 1307 = .ok (.istore 5, 2) := by decide +kernel
theorem dL_law_1309 : decode cL_law 1309 = .ok (.aload_n 2, 1) := by decide +kernel
theorem dL_law_1310 : decode cL_law 1310 = .ok (.aload_n 0, 1) := by decide +kernel
theorem dL_law_1311 : decode cL_law 1311 = .ok (.iload 4, 2) := by decide +kernel
theorem dL_law_1313 : decode cL_law 1313 = .ok (.iconst 1, 1) := by decide +kernel
theorem dL_law_1314 : decode cL_law 1314 = .ok (.iadd, 1) := by decide +kernel
theorem dL_law_1315 : decode cL_law 1315 = .ok (.iaload, 1) := by decide +kernel
theorem dL_law_1316 : decode cL_law 1316 = .ok (.aload_n 0, 1) := by decide +kernel
theorem dL_law_1317 : decode cL_law 1317 = .ok (.iload 4, 2) := by decide +kernel
theorem dL_law_1319 : decode cL_law 1319 = .ok (.iconst 2, 1) := by decide +kernel
theorem dL_law_1320 : decode cL_law 1320 = .ok (.iadd, 1) := by decide +kernel
theorem dL_law_1321 : decode cL_law 1321 = .ok (.iaload, 1) := by decide +kernel
theorem dL_law_1322 : decode cL_law 1322 = .ok (.invokevirtual 173, 3) := by decide +kernel
theorem dL_law_1325 : decode cL_law 1325 = .ok (.istore 6, 2) := by decide +kernel
theorem dL_law_1327 : decode cL_law 1327 = .ok (.aload_n 2, 1) := by decide +kernel
theorem dL_law_1328 : decode cL_law 1328 = .ok (.invokevirtual 91, 3) := by decide +kernel
theorem dL_law_1331 : decode cL_law 1331 = .ok (.iload 5, 2) := by decide +kernel
theorem dL_law_1333 : decode cL_law 1333 = .ok (.if_icmp .eq 5, 3) := by decide +kernel
theorem dL_law_1336 : decode cL_law 1336 = .ok (.iconst 0, 1) := by decide +kernel
theorem dL_law_1337 : decode cL_law 1337 = .ok (.ireturn, 1) := by decide +kernel
theorem dL_law_1338 : decode cL_law 1338 = .ok (.iload 5, 2) := by decide +kernel
theorem dL_law_1340 : decode cL_law 1340 = .ok (.ifCond .ne 15, 3) := by decide +kernel
theorem dL_law_1343 : decode cL_law 1343 = .ok (.aload_n 3, 1) := by decide +kernel
theorem dL_law_1344 : decode cL_law 1344 = .ok (.iconst 0, 1) := by decide +kernel
theorem dL_law_1345 : decode cL_law 1345 = .ok (.laload, 1) := by decide +kernel
theorem dL_law_1346 : decode cL_law 1346 = .ok (.iload 6, 2) := by decide +kernel
theorem dL_law_1348 : decode cL_law 1348 = .ok (.i2l, 1) := by decide +kernel
theorem dL_law_1349 : decode cL_law 1349 = .ok (.lcmp, 1) := by decide +kernel
theorem dL_law_1350 : decode cL_law 1350 = .ok (.ifCond .eq 5, 3) := by decide +kernel
theorem dL_law_1353 : decode cL_law 1353 = .ok (.iconst 0, 1) := by decide +kernel
theorem dL_law_1354 : decode cL_law 1354 = .ok (.ireturn, 1) := by decide +kernel
theorem dL_law_1355 : decode cL_law 1355 = .ok (.goto 208, 3) := by decide +kernel
theorem dL_law_1358 : decode cL_law 1358 = .ok (.aload_n 1, 1) := by decide +kernel
theorem dL_law_1359 : decode cL_law 1359 = .ok (.aload_n 0, 1) := by decide +kernel
theorem dL_law_1360 : decode cL_law 1360 = .ok (.iload 4, 2) := by decide +kernel
theorem dL_law_1362 : decode cL_law 1362 = .ok (.iconst 1, 1) := by decide +kernel
theorem dL_law_1363 : decode cL_law 1363 = .ok (.iadd, 1) := by decide +kernel
theorem dL_law_1364 : decode cL_law 1364 = .ok (.iaload, 1) := by decide +kernel
theorem dL_law_1365 : decode cL_law 1365 = .ok (.aload_n 0, 1) := by decide +kernel
theorem dL_law_1366 : decode cL_law 1366 = .ok (.iload 4, 2) := by decide +kernel
theorem dL_law_1368 : decode cL_law 1368 = .ok (.iconst 2, 1) := by decide +kernel
theorem dL_law_1369 : decode cL_law 1369 = .ok (.iadd, 1) := by decide +kernel
theorem dL_law_1370 : decode cL_law 1370 = .ok (.iaload, 1) := by decide +kernel
theorem dL_law_1371 : decode cL_law 1371 = .ok (.aload_n 3, 1) := by decide +kernel
theorem dL_law_1372 : decode cL_law 1372 = .ok (.invokestatic 174, 3) := by decide +kernel
theorem dL_law_1375 : decode cL_law 1375 = .ok (.istore 5, 2) := by decide +kernel
theorem dL_law_1377 : decode cL_law 1377 = .ok (.aload_n 2, 1) := by decide +kernel
theorem dL_law_1378 : decode cL_law 1378 = .ok (.aload_n 0, 1) := by decide +kernel
theorem dL_law_1379 : decode cL_law 1379 = .ok (.iload 4, 2) := by decide +kernel
theorem dL_law_1381 : decode cL_law 1381 = .ok (.iconst 1, 1) := by decide +kernel
theorem dL_law_1382 : decode cL_law 1382 = .ok (.iadd, 1) := by decide +kernel
theorem dL_law_1383 : decode cL_law 1383 = .ok (.iaload, 1) := by decide +kernel
theorem dL_law_1384 : decode cL_law 1384 = .ok (.aload_n 0, 1) := by decide +kernel
theorem dL_law_1385 : decode cL_law 1385 = .ok (.iload 4, 2) := by decide +kernel
theorem dL_law_1387 : decode cL_law 1387 = .ok (.iconst 2, 1) := by decide +kernel
theorem dL_law_1388 : decode cL_law 1388 = .ok (.iadd, 1) := by decide +kernel
theorem dL_law_1389 : decode cL_law 1389 = .ok (.iaload, 1) := by decide +kernel
theorem dL_law_1390 : decode cL_law 1390 = .ok (.invokevirtual 176, 3) := by decide +kernel
theorem dL_law_1393 : decode cL_law 1393 = .ok (.istore 6, 2) := by decide +kernel
theorem dL_law_1395 : decode cL_law 1395 = .ok (.aload_n 2, 1) := by decide +kernel
theorem dL_law_1396 : decode cL_law 1396 = .ok (.invokevirtual 91, 3) := by decide +kernel
theorem dL_law_1399 : decode cL_law 1399 = .ok (.iload 5, 2) := by decide +kernel
theorem dL_law_1401 : decode cL_law 1401 = .ok (.if_icmp .eq 5, 3) := by decide +kernel
theorem dL_law_1404 : decode cL_law 1404 = .ok (.iconst 0, 1) := by decide +kernel
theorem dL_law_1405 : decode cL_law 1405 = .ok (.ireturn, 1) := by decide +kernel
theorem dL_law_1406 : decode cL_law 1406 = .ok (.iload 5, 2) := by decide +kernel
theorem dL_law_1408 : decode cL_law 1408 = .ok (.ifCond .ne 15, 3) := by decide +kernel
theorem dL_law_1411 : decode cL_law 1411 = .ok (.aload_n 3, 1) := by decide +kernel
theorem dL_law_1412 : decode cL_law 1412 = .ok (.iconst 0, 1) := by decide +kernel
theorem dL_law_1413 : decode cL_law 1413 = .ok (.laload, 1) := by decide +kernel
theorem dL_law_1414 : decode cL_law 1414 = .ok (.iload 6, 2) := by decide +kernel
theorem dL_law_1416 : decode cL_law 1416 = .ok (.i2l, 1) := by decide +kernel
theorem dL_law_1417 : decode cL_law 1417 = .ok (.lcmp, 1) := by decide +kernel
theorem dL_law_1418 : decode cL_law 1418 = .ok (.ifCond .eq 5, 3) := by decide +kernel
theorem dL_law_1421 : decode cL_law 1421 = .ok (.iconst 0, 1) := by decide +kernel
theorem dL_law_1422 : decode cL_law 1422 = .ok (.ireturn, 1) := by decide +kernel
theorem dL_law_1423 : decode cL_law 1423 = .ok (.goto 140, 3) := by decide +kernel
theorem dL_law_1426 : decode cL_law 1426 = .ok (.aload_n 1, 1) := by decide +kernel
theorem dL_law_1427 : decode cL_law 1427 = .ok (.aload_n 0, 1) := by decide +kernel
theorem dL_law_1428 : decode cL_law 1428 = .ok (.iload 4, 2) := by decide +kernel
theorem dL_law_1430 : decode cL_law 1430 = .ok (.iconst 1, 1) := by decide +kernel
theorem dL_law_1431 : decode cL_law 1431 = .ok (.iadd, 1) := by decide +kernel
theorem dL_law_1432 : decode cL_law 1432 = .ok (.iaload, 1) := by decide +kernel
theorem dL_law_1433 : decode cL_law 1433 = .ok (.aload_n 3, 1) := by decide +kernel
theorem dL_law_1434 : decode cL_law 1434 = .ok (.invokestatic 177, 3) := by decide +kernel
theorem dL_law_1437 : decode cL_law 1437 = .ok (.istore 5, 2) := by decide +kernel
theorem dL_law_1439 : decode cL_law 1439 = .ok (.aload_n 2, 1) := by decide +kernel
theorem dL_law_1440 : decode cL_law 1440 = .ok (.aload_n 0, 1) := by decide +kernel
theorem dL_law_1441 : decode cL_law 1441 = .ok (.iload 4, 2) := by decide +kernel
theorem dL_law_1443 : decode cL_law 1443 = .ok (.iconst 1, 1) := by decide +kernel
theorem dL_law_1444 : decode cL_law 1444 = .ok (.iadd, 1) := by decide +kernel
theorem dL_law_1445 : decode cL_law 1445 = .ok (.iaload, 1) := by decide +kernel
theorem dL_law_1446 : decode cL_law 1446 = .ok (.invokevirtual 179, 3) := by decide +kernel
theorem dL_law_1449 : decode cL_law 1449 = .ok (.istore 6, 2) := by decide +kernel
theorem dL_law_1451 : decode cL_law 1451 = .ok (.aload_n 2, 1) := by decide +kernel
theorem dL_law_1452 : decode cL_law 1452 = .ok (.invokevirtual 91, 3) := by decide +kernel
theorem dL_law_1455 : decode cL_law 1455 = .ok (.iload 5, 2) := by decide +kernel
theorem dL_law_1457 : decode cL_law 1457 = .ok (.if_icmp .eq 5, 3) := by decide +kernel
theorem dL_law_1460 : decode cL_law 1460 = .ok (.iconst 0, 1) := by decide +kernel
theorem dL_law_1461 : decode cL_law 1461 = .ok (.ireturn, 1) := by decide +kernel
theorem dL_law_1462 : decode cL_law 1462 = .ok (.iload 5, 2) := by decide +kernel
theorem dL_law_1464 : decode cL_law 1464 = .ok (.ifCond .ne 15, 3) := by decide +kernel
theorem dL_law_1467 : decode cL_law 1467 = .ok (.aload_n 3, 1) := by decide +kernel
theorem dL_law_1468 : decode cL_law 1468 = .ok (.iconst 0, 1) := by decide +kernel
theorem dL_law_1469 : decode cL_law 1469 = .ok (.laload, 1) := by decide +kernel
theorem dL_law_1470 : decode cL_law 1470 = .ok (.iload 6, 2) := by decide +kernel
theorem dL_law_1472 : decode cL_law 1472 = .ok (.i2l, 1) := by decide +kernel
theorem dL_law_1473 : decode cL_law 1473 = .ok (.lcmp, 1) := by decide +kernel
theorem dL_law_1474 : decode cL_law 1474 = .ok (.ifCond .eq 5, 3) := by decide +kernel
theorem dL_law_1477 : decode cL_law 1477 = .ok (.iconst 0, 1) := by decide +kernel
theorem dL_law_1478 : decode cL_law 1478 = .ok (.ireturn, 1) := by decide +kernel
theorem dL_law_1479 : decode cL_law 1479 = .ok (.goto 84, 3) := by decide +kernel
theorem dL_law_1482 : decode cL_law 1482 = .ok (.aload_n 1, 1) := by decide +kernel
theorem dL_law_1483 : decode cL_law 1483 = .ok (.aload_n 0, 1) := by decide +kernel
theorem dL_law_1484 : decode cL_law 1484 = .ok (.iload 4, 2) := by decide +kernel
theorem dL_law_1486 : decode cL_law 1486 = .ok (.iconst 1, 1) := by decide +kernel
theorem dL_law_1487 : decode cL_law 1487 = .ok (.iadd, 1) := by decide +kernel
theorem dL_law_1488 : decode cL_law 1488 = .ok (.iaload, 1) := by decide +kernel
theorem dL_law_1489 : decode cL_law 1489 = .ok (.aload_n 3, 1) := by decide +kernel
theorem dL_law_1490 : decode cL_law 1490 = .ok (.invokestatic 180, 3) := by decide +kernel
theorem dL_law_1493 : decode cL_law 1493 = .ok (.istore 5, 2) := by decide +kernel
theorem dL_law_1495 : decode cL_law 1495 = .ok (.aload_n 2, 1) := by decide +kernel
theorem dL_law_1496 : decode cL_law 1496 = .ok (.aload_n 0, 1) := by decide +kernel
theorem dL_law_1497 : decode cL_law 1497 = .ok (.iload 4, 2) := by decide +kernel
theorem dL_law_1499 : decode cL_law 1499 = .ok (.iconst 1, 1) := by decide +kernel
theorem dL_law_1500 : decode cL_law 1500 = .ok (.iadd, 1) := by decide +kernel
theorem dL_law_1501 : decode cL_law 1501 = .ok (.iaload, 1) := by decide +kernel
theorem dL_law_1502 : decode cL_law 1502 = .ok (.invokevirtual 182, 3) := by decide +kernel
theorem dL_law_1505 : decode cL_law 1505 = .ok (.istore 6, 2) := by decide +kernel
theorem dL_law_1507 : decode cL_law 1507 = .ok (.aload_n 2, 1) := by decide +kernel
theorem dL_law_1508 : decode cL_law 1508 = .ok (.invokevirtual 91, 3) := by decide +kernel
theorem dL_law_1511 : decode cL_law 1511 = .ok (.iload 5, 2) := by decide +kernel
theorem dL_law_1513 : decode cL_law 1513 = .ok (.if_icmp .eq 5, 3) := by decide +kernel
theorem dL_law_1516 : decode cL_law 1516 = .ok (.iconst 0, 1) := by decide +kernel
theorem dL_law_1517 : decode cL_law 1517 = .ok (.ireturn, 1) := by decide +kernel
theorem dL_law_1518 : decode cL_law 1518 = .ok (.iload 5, 2) := by decide +kernel
theorem dL_law_1520 : decode cL_law 1520 = .ok (.ifCond .ne 15, 3) := by decide +kernel
theorem dL_law_1523 : decode cL_law 1523 = .ok (.aload_n 3, 1) := by decide +kernel
theorem dL_law_1524 : decode cL_law 1524 = .ok (.iconst 0, 1) := by decide +kernel
theorem dL_law_1525 : decode cL_law 1525 = .ok (.laload, 1) := by decide +kernel
theorem dL_law_1526 : decode cL_law 1526 = .ok (.iload 6, 2) := by decide +kernel
theorem dL_law_1528 : decode cL_law 1528 = .ok (.i2l, 1) := by decide +kernel
theorem dL_law_1529 : decode cL_law 1529 = .ok (.lcmp, 1) := by decide +kernel
theorem dL_law_1530 : decode cL_law 1530 = .ok (.ifCond .eq 5, 3) := by decide +kernel
theorem dL_law_1533 : decode cL_law 1533 = .ok (.iconst 0, 1) := by decide +kernel
theorem dL_law_1534 : decode cL_law 1534 = .ok (.ireturn, 1) := by decide +kernel
theorem dL_law_1535 : decode cL_law 1535 = .ok (.goto 28, 3) := by decide +kernel
theorem dL_law_1538 : decode cL_law 1538 = .ok (.aload_n 1, 1) := by decide +kernel
theorem dL_law_1539 : decode cL_law 1539 = .ok (.aload_n 0, 1) := by decide +kernel
theorem dL_law_1540 : decode cL_law 1540 = .ok (.iload 4, 2) := by decide +kernel
theorem dL_law_1542 : decode cL_law 1542 = .ok (.iconst 1, 1) := by decide +kernel
theorem dL_law_1543 : decode cL_law 1543 = .ok (.iadd, 1) := by decide +kernel
theorem dL_law_1544 : decode cL_law 1544 = .ok (.iaload, 1) := by decide +kernel
theorem dL_law_1545 : decode cL_law 1545 = .ok (.invokevirtual 183, 3) := by decide +kernel
theorem dL_law_1548 : decode cL_law 1548 = .ok (.aload_n 2, 1) := by decide +kernel
theorem dL_law_1549 : decode cL_law 1549 = .ok (.aload_n 0, 1) := by decide +kernel
theorem dL_law_1550 : decode cL_law 1550 = .ok (.iload 4, 2) := by decide +kernel
theorem dL_law_1552 : decode cL_law 1552 = .ok (.iconst 1, 1) := by decide +kernel
theorem dL_law_1553 : decode cL_law 1553 = .ok (.iadd, 1) := by decide +kernel
theorem dL_law_1554 : decode cL_law 1554 = .ok (.iaload, 1) := by decide +kernel
theorem dL_law_1555 : decode cL_law 1555 = .ok (.invokevirtual 186, 3) := by decide +kernel
theorem dL_law_1558 : decode cL_law 1558 = .ok (.if_icmp .eq 5, 3) := by decide +kernel
theorem dL_law_1561 : decode cL_law 1561 = .ok (.iconst 0, 1) := by decide +kernel
theorem dL_law_1562 : decode cL_law 1562 = .ok (.ireturn, 1) := by decide +kernel
theorem dL_law_1563 : decode cL_law 1563 = .ok (.iinc 4 5, 3) := by decide +kernel
theorem dL_law_1566 : decode cL_law 1566 = .ok (.goto (-1543), 3) := by decide +kernel
theorem dL_law_1569 : decode cL_law 1569 = .ok (.iconst 1, 1) := by decide +kernel
theorem dL_law_1570 : decode cL_law 1570 = .ok (.ireturn, 1) := by decide +kernel
abbrev vwCl : List vw_C := [(RX0, TX0, 14), (RX1, TX1, 3), (RX2, TX2, 4), (RX3, TX3, 2), (RX4, TX4, 3), (RX5, TX5, 17), (RX6, TX6, 32)]
