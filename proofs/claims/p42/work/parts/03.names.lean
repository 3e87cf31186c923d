/-! ===== END ===== -/

/-! ===== BEGIN printed: names, fields, word lists, decode rows ===== -/
def RX0 : String := "BillOfMaterials$Bill"
def TX0 : u_T := fun k => match k with
  | 0 => ("BillOfMaterials$Bill", "parts", "LBillOfMaterials$PartTable;", true)
  | 1 => ("BillOfMaterials$Bill", "lines", "LBillOfMaterials$LineTable;", true)
  | 2 => ("BillOfMaterials$Bill", "childSets", "[I", true)
  | 3 => ("BillOfMaterials$Bill", "parentSets", "[I", true)
  | 4 => ("BillOfMaterials$Bill", "heldChildSets", "[I", true)
  | _ => ("BillOfMaterials$Bill", "heldLines", "[I", true)
def tyX0 : Nat → FieldType := fun k => match k with
  | 0 => .object "BillOfMaterials$PartTable"
  | 1 => .object "BillOfMaterials$LineTable"
  | 2 => .array .int
  | 3 => .array .int
  | 4 => .array .int
  | _ => .array .int
abbrev wsX00 : List Cond := u_ws RX0 TX0 6
theorem nmX0 : ∀ a, a < 6 → ∀ b, b < 6 → a ≠ b → (TX0 a).2.1 ≠ (TX0 b).2.1 := by decide +kernel
theorem tyX0_ok : ∀ k, k < 6 → parseFieldDescriptor (TX0 k).2.2.1 = some (tyX0 k) := by decide +kernel
abbrev cX0_init : ByteArray := prog_2_method_1_code
def yX0_init : MethodName := ⟨RX0, "<init>", "()V"⟩
abbrev cX0_add : ByteArray := prog_2_method_2_code
def yX0_add : MethodName := ⟨RX0, "add", "(IIII)I"⟩
abbrev cX0_select : ByteArray := prog_2_method_3_code
def yX0_select : MethodName := ⟨RX0, "select", "(II)V"⟩
abbrev cX0_heldLine : ByteArray := prog_2_method_4_code
def yX0_heldLine : MethodName := ⟨RX0, "heldLine", "(II)I"⟩
abbrev cX0_hasHeldChildrenIn : ByteArray := prog_2_method_5_code
def yX0_hasHeldChildrenIn : MethodName := ⟨RX0, "hasHeldChildrenIn", "(II)Z"⟩
abbrev cX0_levelsBelow : ByteArray := prog_2_method_6_code
def yX0_levelsBelow : MethodName := ⟨RX0, "levelsBelow", "(I)I"⟩
abbrev cX0_levelsAbove : ByteArray := prog_2_method_7_code
def yX0_levelsAbove : MethodName := ⟨RX0, "levelsAbove", "(I)I"⟩
abbrev cX0_heldLevelsBelow : ByteArray := prog_2_method_8_code
def yX0_heldLevelsBelow : MethodName := ⟨RX0, "heldLevelsBelow", "(I)I"⟩
abbrev cX0_isWithin : ByteArray := prog_2_method_9_code
def yX0_isWithin : MethodName := ⟨RX0, "isWithin", "(II)Z"⟩
abbrev cX0_isShallow : ByteArray := prog_2_method_10_code
def yX0_isShallow : MethodName := ⟨RX0, "isShallow", "()Z"⟩
abbrev cX0_hasSoundSets : ByteArray := prog_2_method_11_code
def yX0_hasSoundSets : MethodName := ⟨RX0, "hasSoundSets", "()Z"⟩
abbrev cX0_placeOf : ByteArray := prog_2_method_12_code
def yX0_placeOf : MethodName := ⟨RX0, "placeOf", "(II)I"⟩
abbrev cX0_stepsFrom : ByteArray := prog_2_method_13_code
def yX0_stepsFrom : MethodName := ⟨RX0, "stepsFrom", "([II)I"⟩
abbrev cX0_unionOf : ByteArray := prog_2_method_14_code
def yX0_unionOf : MethodName := ⟨RX0, "unionOf", "([II)I"⟩
def RX1 : String := "BillOfMaterials$Bits"
def TX1 : u_T := fun k => match k with
  | _ => ("", "", "", false)
def tyX1 : Nat → FieldType := fun k => match k with
  | _ => .int
abbrev wsX10 : List Cond := u_ws RX1 TX1 0
theorem nmX1 : ∀ a, a < 0 → ∀ b, b < 0 → a ≠ b → (TX1 a).2.1 ≠ (TX1 b).2.1 := by decide +kernel
theorem tyX1_ok : ∀ k, k < 0 → parseFieldDescriptor (TX1 k).2.2.1 = some (tyX1 k) := by decide +kernel
abbrev cX1_ofFloat : ByteArray := prog_3_method_2_code
def yX1_ofFloat : MethodName := ⟨RX1, "ofFloat", "(F)I"⟩
abbrev cX1_ofDouble : ByteArray := prog_3_method_3_code
def yX1_ofDouble : MethodName := ⟨RX1, "ofDouble", "(D)J"⟩
def RX2 : String := "BillOfMaterials$CostRollUp"
def TX2 : u_T := fun k => match k with
  | _ => ("BillOfMaterials$CostRollUp", "costs", "[F", true)
def tyX2 : Nat → FieldType := fun k => match k with
  | _ => .array .float
abbrev wsX20 : List Cond := u_ws RX2 TX2 1
theorem nmX2 : ∀ a, a < 1 → ∀ b, b < 1 → a ≠ b → (TX2 a).2.1 ≠ (TX2 b).2.1 := by decide +kernel
theorem tyX2_ok : ∀ k, k < 1 → parseFieldDescriptor (TX2 k).2.2.1 = some (tyX2 k) := by decide +kernel
abbrev cX2_init : ByteArray := prog_4_method_1_code
def yX2_init : MethodName := ⟨RX2, "<init>", "()V"⟩
abbrev cX2_rollUp : ByteArray := prog_4_method_2_code
def yX2_rollUp : MethodName := ⟨RX2, "rollUp", "(LBillOfMaterials$Bill;)V"⟩
abbrev cX2_dearestLine : ByteArray := prog_4_method_3_code
def yX2_dearestLine : MethodName := ⟨RX2, "dearestLine", "(LBillOfMaterials$Bill;I)I"⟩
abbrev cX2_costOf : ByteArray := prog_4_method_4_code
def yX2_costOf : MethodName := ⟨RX2, "costOf", "(LBillOfMaterials$Bill;I)F"⟩
abbrev cX2_addedBy : ByteArray := prog_4_method_5_code
def yX2_addedBy : MethodName := ⟨RX2, "addedBy", "(LBillOfMaterials$Bill;I)F"⟩
def RX3 : String := "BillOfMaterials$DirectList"
def TX3 : u_T := fun k => match k with
  | 0 => ("BillOfMaterials$DirectList", "entryParts", "[I", false)
  | 1 => ("BillOfMaterials$DirectList", "entryQuantities", "[J", false)
  | _ => ("BillOfMaterials$DirectList", "size", "I", false)
def tyX3 : Nat → FieldType := fun k => match k with
  | 0 => .array .int
  | 1 => .array .long
  | _ => .int
abbrev wsX30 : List Cond := u_ws RX3 TX3 3
theorem nmX3 : ∀ a, a < 3 → ∀ b, b < 3 → a ≠ b → (TX3 a).2.1 ≠ (TX3 b).2.1 := by decide +kernel
theorem tyX3_ok : ∀ k, k < 3 → parseFieldDescriptor (TX3 k).2.2.1 = some (tyX3 k) := by decide +kernel
abbrev cX3_init : ByteArray := prog_5_method_1_code
def yX3_init : MethodName := ⟨RX3, "<init>", "()V"⟩
abbrev cX3_clear : ByteArray := prog_5_method_2_code
def yX3_clear : MethodName := ⟨RX3, "clear", "()V"⟩
abbrev cX3_add : ByteArray := prog_5_method_3_code
def yX3_add : MethodName := ⟨RX3, "add", "(IJ)V"⟩
abbrev cX3_grow : ByteArray := prog_5_method_4_code
def yX3_grow : MethodName := ⟨RX3, "grow", "()V"⟩
def RX4 : String := "BillOfMaterials$LineTable"
def TX4 : u_T := fun k => match k with
  | 0 => ("BillOfMaterials$LineTable", "parents", "[I", true)
  | 1 => ("BillOfMaterials$LineTable", "positions", "[I", true)
  | 2 => ("BillOfMaterials$LineTable", "children", "[I", true)
  | 3 => ("BillOfMaterials$LineTable", "quantities", "[I", true)
  | 4 => ("BillOfMaterials$LineTable", "scraps", "[I", true)
  | 5 => ("BillOfMaterials$LineTable", "firstSerials", "[I", true)
  | 6 => ("BillOfMaterials$LineTable", "lastSerials", "[I", true)
  | 7 => ("BillOfMaterials$LineTable", "options", "[I", true)
  | 8 => ("BillOfMaterials$LineTable", "choiceSets", "[I", true)
  | _ => ("BillOfMaterials$LineTable", "count", "I", false)
def tyX4 : Nat → FieldType := fun k => match k with
  | 0 => .array .int
  | 1 => .array .int
  | 2 => .array .int
  | 3 => .array .int
  | 4 => .array .int
  | 5 => .array .int
  | 6 => .array .int
  | 7 => .array .int
  | 8 => .array .int
  | _ => .int
abbrev wsX40 : List Cond := u_ws RX4 TX4 10
theorem nmX4 : ∀ a, a < 10 → ∀ b, b < 10 → a ≠ b → (TX4 a).2.1 ≠ (TX4 b).2.1 := by decide +kernel
theorem tyX4_ok : ∀ k, k < 10 → parseFieldDescriptor (TX4 k).2.2.1 = some (tyX4 k) := by decide +kernel
abbrev cX4_init : ByteArray := prog_6_method_1_code
def yX4_init : MethodName := ⟨RX4, "<init>", "()V"⟩
abbrev cX4_add : ByteArray := prog_6_method_2_code
def yX4_add : MethodName := ⟨RX4, "add", "(IIII)I"⟩
abbrev cX4_setRange : ByteArray := prog_6_method_3_code
def yX4_setRange : MethodName := ⟨RX4, "setRange", "(III)V"⟩
abbrev cX4_setCondition : ByteArray := prog_6_method_4_code
def yX4_setCondition : MethodName := ⟨RX4, "setCondition", "(III)V"⟩
abbrev cX4_isHolding : ByteArray := prog_6_method_5_code
def yX4_isHolding : MethodName := ⟨RX4, "isHolding", "(III)Z"⟩
abbrev cX4_isAt : ByteArray := prog_6_method_6_code
def yX4_isAt : MethodName := ⟨RX4, "isAt", "(III)Z"⟩
abbrev cX4_overlaps : ByteArray := prog_6_method_7_code
def yX4_overlaps : MethodName := ⟨RX4, "overlaps", "(III)Z"⟩
abbrev cX4_sharesConfiguration : ByteArray := prog_6_method_8_code
def yX4_sharesConfiguration : MethodName := ⟨RX4, "sharesConfiguration", "(III)Z"⟩
abbrev cX4_addedCost : ByteArray := prog_6_method_9_code
def yX4_addedCost : MethodName := ⟨RX4, "addedCost", "(IF)F"⟩
abbrev cX4_isSound : ByteArray := prog_6_method_10_code
def yX4_isSound : MethodName := ⟨RX4, "isSound", "(I)Z"⟩
abbrev cX4_isSoundLine : ByteArray := prog_6_method_11_code
def yX4_isSoundLine : MethodName := ⟨RX4, "isSoundLine", "(II)Z"⟩
abbrev cX4_isUnique : ByteArray := prog_6_method_12_code
def yX4_isUnique : MethodName := ⟨RX4, "isUnique", "()Z"⟩
def RX5 : String := "BillOfMaterials$OrderBook"
def TX5 : u_T := fun k => match k with
  | 0 => ("BillOfMaterials$OrderBook", "orderedParts", "[I", true)
  | 1 => ("BillOfMaterials$OrderBook", "serials", "[I", true)
  | 2 => ("BillOfMaterials$OrderBook", "units", "[I", true)
  | 3 => ("BillOfMaterials$OrderBook", "configurations", "[I", true)
  | 4 => ("BillOfMaterials$OrderBook", "cancelled", "[Z", true)
  | _ => ("BillOfMaterials$OrderBook", "count", "I", false)
def tyX5 : Nat → FieldType := fun k => match k with
  | 0 => .array .int
  | 1 => .array .int
  | 2 => .array .int
  | 3 => .array .int
  | 4 => .array .boolean
  | _ => .int
abbrev wsX50 : List Cond := u_ws RX5 TX5 6
theorem nmX5 : ∀ a, a < 6 → ∀ b, b < 6 → a ≠ b → (TX5 a).2.1 ≠ (TX5 b).2.1 := by decide +kernel
theorem tyX5_ok : ∀ k, k < 6 → parseFieldDescriptor (TX5 k).2.2.1 = some (tyX5 k) := by decide +kernel
abbrev cX5_init : ByteArray := prog_7_method_1_code
def yX5_init : MethodName := ⟨RX5, "<init>", "()V"⟩
abbrev cX5_add : ByteArray := prog_7_method_2_code
def yX5_add : MethodName := ⟨RX5, "add", "(IIII)I"⟩
abbrev cX5_countOpen : ByteArray := prog_7_method_3_code
def yX5_countOpen : MethodName := ⟨RX5, "countOpen", "()I"⟩
abbrev cX5_isSound : ByteArray := prog_7_method_4_code
def yX5_isSound : MethodName := ⟨RX5, "isSound", "(I)Z"⟩
def RX6 : String := "BillOfMaterials$OutputLine"
def TX6 : u_T := fun k => match k with
  | 0 => ("BillOfMaterials$OutputLine", "text", "[C", false)
  | _ => ("BillOfMaterials$OutputLine", "size", "I", false)
def tyX6 : Nat → FieldType := fun k => match k with
  | 0 => .array .char
  | _ => .int
abbrev wsX60 : List Cond := u_ws RX6 TX6 2
theorem nmX6 : ∀ a, a < 2 → ∀ b, b < 2 → a ≠ b → (TX6 a).2.1 ≠ (TX6 b).2.1 := by decide +kernel
theorem tyX6_ok : ∀ k, k < 2 → parseFieldDescriptor (TX6 k).2.2.1 = some (tyX6 k) := by decide +kernel
abbrev cX6_init : ByteArray := prog_8_method_1_code
def yX6_init : MethodName := ⟨RX6, "<init>", "()V"⟩
def RX7 : String := "BillOfMaterials$PartTable"
def TX7 : u_T := fun k => match k with
  | 0 => ("BillOfMaterials$PartTable", "kinds", "[C", true)
  | 1 => ("BillOfMaterials$PartTable", "cents", "[I", true)
  | 2 => ("BillOfMaterials$PartTable", "grams", "[I", true)
  | _ => ("BillOfMaterials$PartTable", "count", "I", false)
def tyX7 : Nat → FieldType := fun k => match k with
  | 0 => .array .char
  | 1 => .array .int
  | 2 => .array .int
  | _ => .int
abbrev wsX70 : List Cond := u_ws RX7 TX7 4
theorem nmX7 : ∀ a, a < 4 → ∀ b, b < 4 → a ≠ b → (TX7 a).2.1 ≠ (TX7 b).2.1 := by decide +kernel
theorem tyX7_ok : ∀ k, k < 4 → parseFieldDescriptor (TX7 k).2.2.1 = some (tyX7 k) := by decide +kernel
abbrev cX7_init : ByteArray := prog_9_method_1_code
def yX7_init : MethodName := ⟨RX7, "<init>", "()V"⟩
abbrev cX7_add : ByteArray := prog_9_method_2_code
def yX7_add : MethodName := ⟨RX7, "add", "(CII)I"⟩
abbrev cX7_ownCost : ByteArray := prog_9_method_3_code
def yX7_ownCost : MethodName := ⟨RX7, "ownCost", "(I)F"⟩
abbrev cX7_ownWeight : ByteArray := prog_9_method_4_code
def yX7_ownWeight : MethodName := ⟨RX7, "ownWeight", "(I)D"⟩
abbrev cX7_isSound : ByteArray := prog_9_method_5_code
def yX7_isSound : MethodName := ⟨RX7, "isSound", "()Z"⟩
def RX8 : String := "BillOfMaterials$QuantityCount"
def TX8 : u_T := fun k => match k with
  | 0 => ("BillOfMaterials$QuantityCount", "amounts", "[J", true)
  | _ => ("BillOfMaterials$QuantityCount", "amountsBelow", "[J", true)
def tyX8 : Nat → FieldType := fun k => match k with
  | 0 => .array .long
  | _ => .array .long
abbrev wsX80 : List Cond := u_ws RX8 TX8 2
theorem nmX8 : ∀ a, a < 2 → ∀ b, b < 2 → a ≠ b → (TX8 a).2.1 ≠ (TX8 b).2.1 := by decide +kernel
theorem tyX8_ok : ∀ k, k < 2 → parseFieldDescriptor (TX8 k).2.2.1 = some (tyX8 k) := by decide +kernel
abbrev cX8_init : ByteArray := prog_10_method_1_code
def yX8_init : MethodName := ⟨RX8, "<init>", "()V"⟩
abbrev cX8_count : ByteArray := prog_10_method_2_code
def yX8_count : MethodName := ⟨RX8, "count", "(LBillOfMaterials$Bill;II)J"⟩
abbrev cX8_goDown : ByteArray := prog_10_method_3_code
def yX8_goDown : MethodName := ⟨RX8, "goDown", "(LBillOfMaterials$Bill;)V"⟩
abbrev cX8_addChildrenOf : ByteArray := prog_10_method_4_code
def yX8_addChildrenOf : MethodName := ⟨RX8, "addChildrenOf", "(LBillOfMaterials$Bill;I)V"⟩
abbrev cX8_clear : ByteArray := prog_10_method_5_code
def yX8_clear : MethodName := ⟨RX8, "clear", "([J)V"⟩
def RX9 : String := "BillOfMaterials$WeightRollUp"
def TX9 : u_T := fun k => match k with
  | _ => ("BillOfMaterials$WeightRollUp", "weights", "[D", true)
def tyX9 : Nat → FieldType := fun k => match k with
  | _ => .array .double
abbrev wsX90 : List Cond := u_ws RX9 TX9 1
theorem nmX9 : ∀ a, a < 1 → ∀ b, b < 1 → a ≠ b → (TX9 a).2.1 ≠ (TX9 b).2.1 := by decide +kernel
theorem tyX9_ok : ∀ k, k < 1 → parseFieldDescriptor (TX9 k).2.2.1 = some (tyX9 k) := by decide +kernel
abbrev cX9_init : ByteArray := prog_11_method_1_code
def yX9_init : MethodName := ⟨RX9, "<init>", "()V"⟩
abbrev cX9_rollUp : ByteArray := prog_11_method_2_code
def yX9_rollUp : MethodName := ⟨RX9, "rollUp", "(LBillOfMaterials$Bill;)V"⟩
abbrev cX9_weightOf : ByteArray := prog_11_method_3_code
def yX9_weightOf : MethodName := ⟨RX9, "weightOf", "(LBillOfMaterials$Bill;I)D"⟩
def RX10 : String := "BillOfMaterials"
def TX10 : u_T := fun k => match k with
  | 0 => ("BillOfMaterials", "bill", "LBillOfMaterials$Bill;", true)
  | 1 => ("BillOfMaterials", "orderBook", "LBillOfMaterials$OrderBook;", true)
  | 2 => ("BillOfMaterials", "quantityCount", "LBillOfMaterials$QuantityCount;", true)
  | 3 => ("BillOfMaterials", "costRollUp", "LBillOfMaterials$CostRollUp;", true)
  | 4 => ("BillOfMaterials", "weightRollUp", "LBillOfMaterials$WeightRollUp;", true)
  | 5 => ("BillOfMaterials", "directList", "LBillOfMaterials$DirectList;", true)
  | 6 => ("BillOfMaterials", "output", "LBillOfMaterials$OutputLine;", true)
  | 7 => ("BillOfMaterials", "markedCosts", "[F", true)
  | 8 => ("BillOfMaterials", "markedParts", "I", false)
  | _ => ("BillOfMaterials", "configuration", "I", false)
def tyX10 : Nat → FieldType := fun k => match k with
  | 0 => .object "BillOfMaterials$Bill"
  | 1 => .object "BillOfMaterials$OrderBook"
  | 2 => .object "BillOfMaterials$QuantityCount"
  | 3 => .object "BillOfMaterials$CostRollUp"
  | 4 => .object "BillOfMaterials$WeightRollUp"
  | 5 => .object "BillOfMaterials$DirectList"
  | 6 => .object "BillOfMaterials$OutputLine"
  | 7 => .array .float
  | 8 => .int
  | _ => .int
abbrev wsX100 : List Cond := u_ws RX10 TX10 10
theorem nmX10 : ∀ a, a < 10 → ∀ b, b < 10 → a ≠ b → (TX10 a).2.1 ≠ (TX10 b).2.1 := by decide +kernel
theorem tyX10_ok : ∀ k, k < 10 → parseFieldDescriptor (TX10 k).2.2.1 = some (tyX10 k) := by decide +kernel
abbrev cX10_init : ByteArray := prog_1_method_1_code
def yX10_init : MethodName := ⟨RX10, "<init>", "()V"⟩
abbrev cX10_addPart : ByteArray := prog_1_method_2_code
def yX10_addPart : MethodName := ⟨RX10, "addPart", "(CII)I"⟩
abbrev cX10_setPrice : ByteArray := prog_1_method_3_code
def yX10_setPrice : MethodName := ⟨RX10, "setPrice", "(II)I"⟩
abbrev cX10_kind : ByteArray := prog_1_method_7_code
def yX10_kind : MethodName := ⟨RX10, "kind", "(I)C"⟩
abbrev cX10_addLine : ByteArray := prog_1_method_8_code
def yX10_addLine : MethodName := ⟨RX10, "addLine", "(IIIIII)I"⟩
abbrev cX10_addVariant : ByteArray := prog_1_method_9_code
def yX10_addVariant : MethodName := ⟨RX10, "addVariant", "(IIIIII)I"⟩
abbrev cX10_replaceFrom : ByteArray := prog_1_method_10_code
def yX10_replaceFrom : MethodName := ⟨RX10, "replaceFrom", "(IIII)I"⟩
abbrev cX10_endBefore : ByteArray := prog_1_method_11_code
def yX10_endBefore : MethodName := ⟨RX10, "endBefore", "(II)I"⟩
abbrev cX10_setScrap : ByteArray := prog_1_method_12_code
def yX10_setScrap : MethodName := ⟨RX10, "setScrap", "(II)I"⟩
abbrev cX10_lines : ByteArray := prog_1_method_13_code
def yX10_lines : MethodName := ⟨RX10, "lines", "()I"⟩
abbrev cX10_lastSerial : ByteArray := prog_1_method_14_code
def yX10_lastSerial : MethodName := ⟨RX10, "lastSerial", "(I)I"⟩
abbrev cX10_holds : ByteArray := prog_1_method_15_code
def yX10_holds : MethodName := ⟨RX10, "holds", "(II)Z"⟩
abbrev cX10_setChoice : ByteArray := prog_1_method_16_code
def yX10_setChoice : MethodName := ⟨RX10, "setChoice", "(II)I"⟩
abbrev cX10_choice : ByteArray := prog_1_method_17_code
def yX10_choice : MethodName := ⟨RX10, "choice", "(I)I"⟩
abbrev cX10_listSize : ByteArray := prog_1_method_18_code
def yX10_listSize : MethodName := ⟨RX10, "listSize", "(II)I"⟩
abbrev cX10_listPart : ByteArray := prog_1_method_19_code
def yX10_listPart : MethodName := ⟨RX10, "listPart", "(III)I"⟩
abbrev cX10_listQuantity : ByteArray := prog_1_method_20_code
def yX10_listQuantity : MethodName := ⟨RX10, "listQuantity", "(III)J"⟩
abbrev cX10_quantity : ByteArray := prog_1_method_23_code
def yX10_quantity : MethodName := ⟨RX10, "quantity", "(III)J"⟩
abbrev cX10_quantityByWalking : ByteArray := prog_1_method_24_code
def yX10_quantityByWalking : MethodName := ⟨RX10, "quantityByWalking", "(III)J"⟩
abbrev cX10_whereUsed : ByteArray := prog_1_method_25_code
def yX10_whereUsed : MethodName := ⟨RX10, "whereUsed", "(II)I"⟩
abbrev cX10_levels : ByteArray := prog_1_method_26_code
def yX10_levels : MethodName := ⟨RX10, "levels", "(II)I"⟩
abbrev cX10_cost : ByteArray := prog_1_method_27_code
def yX10_cost : MethodName := ⟨RX10, "cost", "(II)F"⟩
abbrev cX10_costByWalking : ByteArray := prog_1_method_28_code
def yX10_costByWalking : MethodName := ⟨RX10, "costByWalking", "(II)F"⟩
abbrev cX10_costBits : ByteArray := prog_1_method_29_code
def yX10_costBits : MethodName := ⟨RX10, "costBits", "(II)I"⟩
abbrev cX10_costCents : ByteArray := prog_1_method_30_code
def yX10_costCents : MethodName := ⟨RX10, "costCents", "(II)I"⟩
abbrev cX10_dearest : ByteArray := prog_1_method_31_code
def yX10_dearest : MethodName := ⟨RX10, "dearest", "(II)I"⟩
abbrev cX10_weight : ByteArray := prog_1_method_32_code
def yX10_weight : MethodName := ⟨RX10, "weight", "(II)D"⟩
abbrev cX10_weightBits : ByteArray := prog_1_method_33_code
def yX10_weightBits : MethodName := ⟨RX10, "weightBits", "(II)J"⟩
abbrev cX10_markCosts : ByteArray := prog_1_method_34_code
def yX10_markCosts : MethodName := ⟨RX10, "markCosts", "(I)I"⟩
abbrev cX10_costChange : ByteArray := prog_1_method_35_code
def yX10_costChange : MethodName := ⟨RX10, "costChange", "(II)F"⟩
abbrev cX10_order : ByteArray := prog_1_method_36_code
def yX10_order : MethodName := ⟨RX10, "order", "(III)I"⟩
abbrev cX10_cancel : ByteArray := prog_1_method_37_code
def yX10_cancel : MethodName := ⟨RX10, "cancel", "(I)I"⟩
abbrev cX10_need : ByteArray := prog_1_method_39_code
def yX10_need : MethodName := ⟨RX10, "need", "(I)J"⟩
abbrev cX10_isConsistent : ByteArray := prog_1_method_40_code
def yX10_isConsistent : MethodName := ⟨RX10, "isConsistent", "()Z"⟩
abbrev cX10_checkPart : ByteArray := prog_1_method_41_code
def yX10_checkPart : MethodName := ⟨RX10, "checkPart", "(I)V"⟩
abbrev cX10_checkLine : ByteArray := prog_1_method_42_code
def yX10_checkLine : MethodName := ⟨RX10, "checkLine", "(I)V"⟩
abbrev cX10_checkOrder : ByteArray := prog_1_method_43_code
def yX10_checkOrder : MethodName := ⟨RX10, "checkOrder", "(I)V"⟩
abbrev cX10_checkEntry : ByteArray := prog_1_method_44_code
def yX10_checkEntry : MethodName := ⟨RX10, "checkEntry", "(I)V"⟩
abbrev cX10_checkCut : ByteArray := prog_1_method_45_code
def yX10_checkCut : MethodName := ⟨RX10, "checkCut", "(II)V"⟩
abbrev cX10_checkNoCircle : ByteArray := prog_1_method_46_code
def yX10_checkNoCircle : MethodName := ⟨RX10, "checkNoCircle", "(II)V"⟩
abbrev cX10_checkRoomForLine : ByteArray := prog_1_method_47_code
def yX10_checkRoomForLine : MethodName := ⟨RX10, "checkRoomForLine", "(II)V"⟩
abbrev cX10_checkUnique : ByteArray := prog_1_method_48_code
def yX10_checkUnique : MethodName := ⟨RX10, "checkUnique", "(IIIIII)V"⟩
abbrev cX10_checkKind : ByteArray := prog_1_method_49_code
def yX10_checkKind : MethodName := ⟨RX10, "checkKind", "(C)V"⟩
abbrev cX10_checkCents : ByteArray := prog_1_method_50_code
def yX10_checkCents : MethodName := ⟨RX10, "checkCents", "(I)V"⟩
abbrev cX10_checkGrams : ByteArray := prog_1_method_51_code
def yX10_checkGrams : MethodName := ⟨RX10, "checkGrams", "(I)V"⟩
abbrev cX10_checkPosition : ByteArray := prog_1_method_52_code
def yX10_checkPosition : MethodName := ⟨RX10, "checkPosition", "(I)V"⟩
abbrev cX10_checkQuantity : ByteArray := prog_1_method_53_code
def yX10_checkQuantity : MethodName := ⟨RX10, "checkQuantity", "(I)V"⟩
abbrev cX10_checkRange : ByteArray := prog_1_method_54_code
def yX10_checkRange : MethodName := ⟨RX10, "checkRange", "(II)V"⟩
abbrev cX10_checkCondition : ByteArray := prog_1_method_55_code
def yX10_checkCondition : MethodName := ⟨RX10, "checkCondition", "(II)V"⟩
abbrev cX10_checkSerial : ByteArray := prog_1_method_56_code
def yX10_checkSerial : MethodName := ⟨RX10, "checkSerial", "(I)V"⟩
abbrev cX10_checkOption : ByteArray := prog_1_method_57_code
def yX10_checkOption : MethodName := ⟨RX10, "checkOption", "(I)V"⟩
abbrev cX10_makeDirectList : ByteArray := prog_1_method_58_code
def yX10_makeDirectList : MethodName := ⟨RX10, "makeDirectList", "(II)V"⟩
abbrev cX10_rolledUpCost : ByteArray := prog_1_method_59_code
def yX10_rolledUpCost : MethodName := ⟨RX10, "rolledUpCost", "(III)F"⟩
abbrev cX10_rolledUpWeight : ByteArray := prog_1_method_60_code
def yX10_rolledUpWeight : MethodName := ⟨RX10, "rolledUpWeight", "(II)D"⟩
abbrev cX10_collectEntries : ByteArray := prog_1_method_61_code
def yX10_collectEntries : MethodName := ⟨RX10, "collectEntries", "(LBillOfMaterials$Bill;LBillOfMaterials$DirectList;IJI)V"⟩
abbrev cX10_walkQuantity : ByteArray := prog_1_method_62_code
def yX10_walkQuantity : MethodName := ⟨RX10, "walkQuantity", "(LBillOfMaterials$Bill;III)J"⟩
abbrev cX10_walkCost : ByteArray := prog_1_method_63_code
def yX10_walkCost : MethodName := ⟨RX10, "walkCost", "(LBillOfMaterials$Bill;II)F"⟩
abbrev cX10_isBetween : ByteArray := prog_1_method_64_code
def yX10_isBetween : MethodName := ⟨RX10, "isBetween", "(III)Z"⟩
abbrev cX10_isKind : ByteArray := prog_1_method_65_code
def yX10_isKind : MethodName := ⟨RX10, "isKind", "(C)Z"⟩
abbrev cX10_choiceIn : ByteArray := prog_1_method_66_code
def yX10_choiceIn : MethodName := ⟨RX10, "choiceIn", "(II)I"⟩
abbrev cX10_isConfiguration : ByteArray := prog_1_method_67_code
def yX10_isConfiguration : MethodName := ⟨RX10, "isConfiguration", "(I)Z"⟩
def RX11 : String := "BillOfMaterialsModel"
def TX11 : u_T := fun k => match k with
  | _ => ("", "", "", false)
def tyX11 : Nat → FieldType := fun k => match k with
  | _ => .int
abbrev wsX110 : List Cond := u_ws RX11 TX11 0
theorem nmX11 : ∀ a, a < 0 → ∀ b, b < 0 → a ≠ b → (TX11 a).2.1 ≠ (TX11 b).2.1 := by decide +kernel
theorem tyX11_ok : ∀ k, k < 0 → parseFieldDescriptor (TX11 k).2.2.1 = some (tyX11 k) := by decide +kernel
def RJx145de : String := "java/io/Serializable"
def TJx145de : u_T := fun k => match k with
  | _ => ("", "", "", false)
def tyJx145de : Nat → FieldType := fun k => match k with
  | _ => .int
theorem nmJx145de : ∀ a, a < 0 → ∀ b, b < 0 → a ≠ b → (TJx145de a).2.1 ≠ (TJx145de b).2.1 := by decide +kernel
theorem tyJx145de_ok : ∀ k, k < 0 → parseFieldDescriptor (TJx145de k).2.2.1 = some (tyJx145de k) := by decide +kernel
def RJxb160c : String := "java/lang/Comparable"
def TJxb160c : u_T := fun k => match k with
  | _ => ("", "", "", false)
def tyJxb160c : Nat → FieldType := fun k => match k with
  | _ => .int
theorem nmJxb160c : ∀ a, a < 0 → ∀ b, b < 0 → a ≠ b → (TJxb160c a).2.1 ≠ (TJxb160c b).2.1 := by decide +kernel
theorem tyJxb160c_ok : ∀ k, k < 0 → parseFieldDescriptor (TJxb160c k).2.2.1 = some (tyJxb160c k) := by decide +kernel
def RJxe99ae : String := "java/lang/Double"
def TJxe99ae : u_T := fun k => match k with
  | _ => ("", "", "", false)
def tyJxe99ae : Nat → FieldType := fun k => match k with
  | _ => .int
theorem nmJxe99ae : ∀ a, a < 0 → ∀ b, b < 0 → a ≠ b → (TJxe99ae a).2.1 ≠ (TJxe99ae b).2.1 := by decide +kernel
theorem tyJxe99ae_ok : ∀ k, k < 0 → parseFieldDescriptor (TJxe99ae k).2.2.1 = some (tyJxe99ae k) := by decide +kernel
abbrev cJxe99ae_isNaN_b9ae7 : ByteArray := prog_16_method_6_code
def yJxe99ae_isNaN_b9ae7 : MethodName := ⟨RJxe99ae, "isNaN", "(D)Z"⟩
abbrev cJxe99ae_doubleToLongBits_ccdee : ByteArray := prog_16_method_23_code
def yJxe99ae_doubleToLongBits_ccdee : MethodName := ⟨RJxe99ae, "doubleToLongBits", "(D)J"⟩
def RJxf58ca : String := "java/lang/Float"
def TJxf58ca : u_T := fun k => match k with
  | _ => ("", "", "", false)
def tyJxf58ca : Nat → FieldType := fun k => match k with
  | _ => .int
theorem nmJxf58ca : ∀ a, a < 0 → ∀ b, b < 0 → a ≠ b → (TJxf58ca a).2.1 ≠ (TJxf58ca b).2.1 := by decide +kernel
theorem tyJxf58ca_ok : ∀ k, k < 0 → parseFieldDescriptor (TJxf58ca k).2.2.1 = some (tyJxf58ca k) := by decide +kernel
abbrev cJxf58ca_isNaN_12338 : ByteArray := prog_18_method_6_code
def yJxf58ca_isNaN_12338 : MethodName := ⟨RJxf58ca, "isNaN", "(F)Z"⟩
abbrev cJxf58ca_floatToIntBits_5c35a : ByteArray := prog_18_method_24_code
def yJxf58ca_floatToIntBits_5c35a : MethodName := ⟨RJxf58ca, "floatToIntBits", "(F)I"⟩
def RJ9 : String := "java/lang/Math"
def TJ9 : u_T := fun k => match k with
  | _ => ("", "", "", false)
def tyJ9 : Nat → FieldType := fun k => match k with
  | _ => .int
theorem nmJ9 : ∀ a, a < 0 → ∀ b, b < 0 → a ≠ b → (TJ9 a).2.1 ≠ (TJ9 b).2.1 := by decide +kernel
theorem tyJ9_ok : ∀ k, k < 0 → parseFieldDescriptor (TJ9 k).2.2.1 = some (tyJ9 k) := by decide +kernel
abbrev cJ9_max_7cf53 : ByteArray := prog_22_method_65_code
def yJ9_max_7cf53 : MethodName := ⟨RJ9, "max", "(II)I"⟩
def RJxd2413 : String := "java/lang/Number"
def TJxd2413 : u_T := fun k => match k with
  | _ => ("", "", "", false)
def tyJxd2413 : Nat → FieldType := fun k => match k with
  | _ => .int
theorem nmJxd2413 : ∀ a, a < 0 → ∀ b, b < 0 → a ≠ b → (TJxd2413 a).2.1 ≠ (TJxd2413 b).2.1 := by decide +kernel
theorem tyJxd2413_ok : ∀ k, k < 0 → parseFieldDescriptor (TJxd2413 k).2.2.1 = some (tyJxd2413 k) := by decide +kernel
def RJ0 : String := "java/lang/String"
def TJ0 : u_T := fun k => match k with
  | _ => ("", "", "", false)
def tyJ0 : Nat → FieldType := fun k => match k with
  | _ => .int
theorem nmJ0 : ∀ a, a < 0 → ∀ b, b < 0 → a ≠ b → (TJ0 a).2.1 ≠ (TJ0 b).2.1 := by decide +kernel
theorem tyJ0_ok : ∀ k, k < 0 → parseFieldDescriptor (TJ0 k).2.2.1 = some (tyJ0 k) := by decide +kernel
def RJ10 : String := "java/lang/System"
def TJ10 : u_T := fun k => match k with
  | _ => ("", "", "", false)
def tyJ10 : Nat → FieldType := fun k => match k with
  | _ => .int
theorem nmJ10 : ∀ a, a < 0 → ∀ b, b < 0 → a ≠ b → (TJ10 a).2.1 ≠ (TJ10 b).2.1 := by decide +kernel
theorem tyJ10_ok : ∀ k, k < 0 → parseFieldDescriptor (TJ10 k).2.2.1 = some (tyJ10 k) := by decide +kernel
def RJxfd54e : String := "java/lang/constant/Constable"
def TJxfd54e : u_T := fun k => match k with
  | _ => ("", "", "", false)
def tyJxfd54e : Nat → FieldType := fun k => match k with
  | _ => .int
theorem nmJxfd54e : ∀ a, a < 0 → ∀ b, b < 0 → a ≠ b → (TJxfd54e a).2.1 ≠ (TJxfd54e b).2.1 := by decide +kernel
theorem tyJxfd54e_ok : ∀ k, k < 0 → parseFieldDescriptor (TJxfd54e k).2.2.1 = some (tyJxfd54e k) := by decide +kernel
def RJx3cf43 : String := "java/lang/constant/ConstantDesc"
def TJx3cf43 : u_T := fun k => match k with
  | _ => ("", "", "", false)
def tyJx3cf43 : Nat → FieldType := fun k => match k with
  | _ => .int
theorem nmJx3cf43 : ∀ a, a < 0 → ∀ b, b < 0 → a ≠ b → (TJx3cf43 a).2.1 ≠ (TJx3cf43 b).2.1 := by decide +kernel
theorem tyJx3cf43_ok : ∀ k, k < 0 → parseFieldDescriptor (TJx3cf43 k).2.2.1 = some (tyJx3cf43 k) := by decide +kernel
def RL : String := "BillOfMaterialsLaw"
abbrev cL_cell : ByteArray := method_2_code
def yL_cell : MethodName := ⟨RL, "cell", "([II)I"⟩
abbrev cL_pick : ByteArray := method_3_code
def yL_pick : MethodName := ⟨RL, "pick", "([III)I"⟩
abbrev cL_addPart : ByteArray := method_4_code
def yL_addPart : MethodName := ⟨RL, "addPart", "(LBillOfMaterials;CII)I"⟩
abbrev cL_setPrice : ByteArray := method_5_code
def yL_setPrice : MethodName := ⟨RL, "setPrice", "(LBillOfMaterials;II)I"⟩
abbrev cL_kind : ByteArray := method_6_code
def yL_kind : MethodName := ⟨RL, "kind", "(LBillOfMaterials;I)I"⟩
abbrev cL_addLine : ByteArray := method_7_code
def yL_addLine : MethodName := ⟨RL, "addLine", "(LBillOfMaterials;IIIIII)I"⟩
abbrev cL_addVariant : ByteArray := method_8_code
def yL_addVariant : MethodName := ⟨RL, "addVariant", "(LBillOfMaterials;IIIIII)I"⟩
abbrev cL_replaceFrom : ByteArray := method_9_code
def yL_replaceFrom : MethodName := ⟨RL, "replaceFrom", "(LBillOfMaterials;IIII)I"⟩
abbrev cL_endBefore : ByteArray := method_10_code
def yL_endBefore : MethodName := ⟨RL, "endBefore", "(LBillOfMaterials;II)I"⟩
abbrev cL_setScrap : ByteArray := method_11_code
def yL_setScrap : MethodName := ⟨RL, "setScrap", "(LBillOfMaterials;II)I"⟩
abbrev cL_lastSerial : ByteArray := method_12_code
def yL_lastSerial : MethodName := ⟨RL, "lastSerial", "(LBillOfMaterials;I)I"⟩
abbrev cL_holds : ByteArray := method_13_code
def yL_holds : MethodName := ⟨RL, "holds", "(LBillOfMaterials;II)I"⟩
abbrev cL_setChoice : ByteArray := method_14_code
def yL_setChoice : MethodName := ⟨RL, "setChoice", "(LBillOfMaterials;II)I"⟩
abbrev cL_choice : ByteArray := method_15_code
def yL_choice : MethodName := ⟨RL, "choice", "(LBillOfMaterials;I)I"⟩
abbrev cL_listSize : ByteArray := method_16_code
def yL_listSize : MethodName := ⟨RL, "listSize", "(LBillOfMaterials;II)I"⟩
abbrev cL_listPart : ByteArray := method_17_code
def yL_listPart : MethodName := ⟨RL, "listPart", "(LBillOfMaterials;III)I"⟩
abbrev cL_listQuantity : ByteArray := method_18_code
def yL_listQuantity : MethodName := ⟨RL, "listQuantity", "(LBillOfMaterials;III)J"⟩
abbrev cL_quantity : ByteArray := method_19_code
def yL_quantity : MethodName := ⟨RL, "quantity", "(LBillOfMaterials;III)J"⟩
abbrev cL_quantityByWalking : ByteArray := method_20_code
def yL_quantityByWalking : MethodName := ⟨RL, "quantityByWalking", "(LBillOfMaterials;III)J"⟩
abbrev cL_whereUsed : ByteArray := method_21_code
def yL_whereUsed : MethodName := ⟨RL, "whereUsed", "(LBillOfMaterials;II)I"⟩
abbrev cL_levels : ByteArray := method_22_code
def yL_levels : MethodName := ⟨RL, "levels", "(LBillOfMaterials;II)I"⟩
abbrev cL_cost : ByteArray := method_23_code
def yL_cost : MethodName := ⟨RL, "cost", "(LBillOfMaterials;II)F"⟩
abbrev cL_costByWalking : ByteArray := method_24_code
def yL_costByWalking : MethodName := ⟨RL, "costByWalking", "(LBillOfMaterials;II)F"⟩
abbrev cL_costBits : ByteArray := method_25_code
def yL_costBits : MethodName := ⟨RL, "costBits", "(LBillOfMaterials;II)I"⟩
abbrev cL_costCents : ByteArray := method_26_code
def yL_costCents : MethodName := ⟨RL, "costCents", "(LBillOfMaterials;II)I"⟩
abbrev cL_dearest : ByteArray := method_27_code
def yL_dearest : MethodName := ⟨RL, "dearest", "(LBillOfMaterials;II)I"⟩
abbrev cL_weight : ByteArray := method_28_code
def yL_weight : MethodName := ⟨RL, "weight", "(LBillOfMaterials;II)D"⟩
abbrev cL_weightBits : ByteArray := method_29_code
def yL_weightBits : MethodName := ⟨RL, "weightBits", "(LBillOfMaterials;II)J"⟩
abbrev cL_markCosts : ByteArray := method_30_code
def yL_markCosts : MethodName := ⟨RL, "markCosts", "(LBillOfMaterials;I)I"⟩
abbrev cL_costChange : ByteArray := method_31_code
def yL_costChange : MethodName := ⟨RL, "costChange", "(LBillOfMaterials;II)F"⟩
abbrev cL_order : ByteArray := method_32_code
def yL_order : MethodName := ⟨RL, "order", "(LBillOfMaterials;III)I"⟩
abbrev cL_cancel : ByteArray := method_33_code
def yL_cancel : MethodName := ⟨RL, "cancel", "(LBillOfMaterials;I)I"⟩
abbrev cL_need : ByteArray := method_34_code
def yL_need : MethodName := ⟨RL, "need", "(LBillOfMaterials;I)J"⟩
abbrev cL_law : ByteArray := code
def yL_law : MethodName := ⟨RL, "law", "([I)Z"⟩
abbrev cL_sum : ByteArray := method_36_code
def yL_sum : MethodName := ⟨RL, "sum", "(LBillOfMaterials;I)J"⟩
abbrev cL_areRight : ByteArray := method_37_code
def yL_areRight : MethodName := ⟨RL, "areRight", "(LBillOfMaterials;II[I[I[I[I)Z"⟩
abbrev cL_areUsed : ByteArray := method_38_code
def yL_areUsed : MethodName := ⟨RL, "areUsed", "(LBillOfMaterials;I)Z"⟩
abbrev vwCl : List vw_C := [(RX0, TX0, 6), (RX2, TX2, 1), (RX3, TX3, 3), (RX4, TX4, 10), (RX5, TX5, 6), (RX6, TX6, 2), (RX7, TX7, 4), (RX8, TX8, 2), (RX9, TX9, 1), (RX10, TX10, 10)]
