def RX0 : String := "KeptPlans$History"
def TX0 : u_T := fun k => match k with
  | 0 => ("KeptPlans$History", "states", "[LKeptPlans$State;", true)
  | 1 => ("KeptPlans$History", "next", "I", false)
  | _ => ("KeptPlans$History", "size", "I", false)
def tyX0 : Nat → FieldType := fun k => match k with
  | 0 => .array (.object "KeptPlans$State")
  | 1 => .int
  | _ => .int
abbrev wsX00 : List Cond := u_ws RX0 TX0 3
theorem nmX0 : ∀ a, a < 3 → ∀ b, b < 3 → a ≠ b → (TX0 a).2.1 ≠ (TX0 b).2.1 := by decide +kernel
theorem tyX0_ok : ∀ k, k < 3 → parseFieldDescriptor (TX0 k).2.2.1 = some (tyX0 k) := by decide +kernel
abbrev cX0_init : ByteArray := prog_2_method_1_code
def yX0_init : MethodName := ⟨RX0, "<init>", "()V"⟩
abbrev cX0_record : ByteArray := prog_2_method_2_code
def yX0_record : MethodName := ⟨RX0, "record", "(LKeptPlans$State;)V"⟩
abbrev cX0_takeBack : ByteArray := prog_2_method_3_code
def yX0_takeBack : MethodName := ⟨RX0, "takeBack", "(LKeptPlans$State;)V"⟩
def RX1 : String := "KeptPlans$Plan"
def TX1 : u_T := fun k => match k with
  | 0 => ("KeptPlans$Plan", "kept", "Z", false)
  | 1 => ("KeptPlans$Plan", "pinned", "Z", false)
  | 2 => ("KeptPlans$Plan", "way", "I", false)
  | 3 => ("KeptPlans$Plan", "least", "I", false)
  | 4 => ("KeptPlans$Plan", "most", "I", false)
  | 5 => ("KeptPlans$Plan", "number", "I", false)
  | 6 => ("KeptPlans$Plan", "guess", "I", false)
  | 7 => ("KeptPlans$Plan", "rows", "I", false)
  | 8 => ("KeptPlans$Plan", "uses", "I", false)
  | 9 => ("KeptPlans$Plan", "madeAt", "I", false)
  | _ => ("KeptPlans$Plan", "usedAt", "I", false)
def tyX1 : Nat → FieldType := fun k => match k with
  | 0 => .boolean
  | 1 => .boolean
  | 2 => .int
  | 3 => .int
  | 4 => .int
  | 5 => .int
  | 6 => .int
  | 7 => .int
  | 8 => .int
  | 9 => .int
  | _ => .int
abbrev wsX10 : List Cond := u_ws RX1 TX1 11
theorem nmX1 : ∀ a, a < 11 → ∀ b, b < 11 → a ≠ b → (TX1 a).2.1 ≠ (TX1 b).2.1 := by decide +kernel
theorem tyX1_ok : ∀ k, k < 11 → parseFieldDescriptor (TX1 k).2.2.1 = some (tyX1 k) := by decide +kernel
abbrev cX1_init : ByteArray := prog_3_method_1_code
def yX1_init : MethodName := ⟨RX1, "<init>", "()V"⟩
abbrev cX1_copyFrom : ByteArray := prog_3_method_2_code
def yX1_copyFrom : MethodName := ⟨RX1, "copyFrom", "(LKeptPlans$Plan;)V"⟩
def RX2 : String := "KeptPlans$QuestionText"
def TX2 : u_T := fun k => match k with
  | 0 => ("KeptPlans$QuestionText", "signs", "[C", true)
  | 1 => ("KeptPlans$QuestionText", "length", "I", false)
  | 2 => ("KeptPlans$QuestionText", "words", "[I", true)
  | 3 => ("KeptPlans$QuestionText", "tables", "[I", true)
  | 4 => ("KeptPlans$QuestionText", "numbers", "[I", true)
  | 5 => ("KeptPlans$QuestionText", "lines", "I", false)
  | _ => ("KeptPlans$QuestionText", "at", "I", false)
def tyX2 : Nat → FieldType := fun k => match k with
  | 0 => .array .char
  | 1 => .int
  | 2 => .array .int
  | 3 => .array .int
  | 4 => .array .int
  | 5 => .int
  | _ => .int
abbrev wsX20 : List Cond := u_ws RX2 TX2 7
theorem nmX2 : ∀ a, a < 7 → ∀ b, b < 7 → a ≠ b → (TX2 a).2.1 ≠ (TX2 b).2.1 := by decide +kernel
theorem tyX2_ok : ∀ k, k < 7 → parseFieldDescriptor (TX2 k).2.2.1 = some (tyX2 k) := by decide +kernel
abbrev cX2_init : ByteArray := prog_4_method_1_code
def yX2_init : MethodName := ⟨RX2, "<init>", "()V"⟩
abbrev cX2_read : ByteArray := prog_4_method_2_code
def yX2_read : MethodName := ⟨RX2, "read", "()I"⟩
abbrev cX2_readLine : ByteArray := prog_4_method_3_code
def yX2_readLine : MethodName := ⟨RX2, "readLine", "(I)Z"⟩
abbrev cX2_readWord : ByteArray := prog_4_method_4_code
def yX2_readWord : MethodName := ⟨RX2, "readWord", "()I"⟩
abbrev cX2_readKeyOrKeys : ByteArray := prog_4_method_5_code
def yX2_readKeyOrKeys : MethodName := ⟨RX2, "readKeyOrKeys", "()I"⟩
abbrev cX2_readNumber : ByteArray := prog_4_method_6_code
def yX2_readNumber : MethodName := ⟨RX2, "readNumber", "(II)I"⟩
abbrev cX2_pass : ByteArray := prog_4_method_7_code
def yX2_pass : MethodName := ⟨RX2, "pass", "(Ljava/lang/String;)Z"⟩
abbrev cX2_sign : ByteArray := prog_4_method_8_code
def yX2_sign : MethodName := ⟨RX2, "sign", "()I"⟩
abbrev cX2_digit : ByteArray := prog_4_method_9_code
def yX2_digit : MethodName := ⟨RX2, "digit", "()I"⟩
def RX3 : String := "KeptPlans$State"
def TX3 : u_T := fun k => match k with
  | 0 => ("KeptPlans$State", "tables", "[LKeptPlans$Table;", true)
  | 1 => ("KeptPlans$State", "plans", "[LKeptPlans$Plan;", true)
  | 2 => ("KeptPlans$State", "settings", "[I", true)
  | 3 => ("KeptPlans$State", "questions", "I", false)
  | 4 => ("KeptPlans$State", "hits", "I", false)
  | 5 => ("KeptPlans$State", "misses", "I", false)
  | 6 => ("KeptPlans$State", "spent", "I", false)
  | 7 => ("KeptPlans$State", "spentLooking", "I", false)
  | 8 => ("KeptPlans$State", "turnedBad", "I", false)
  | _ => ("KeptPlans$State", "crowdedOut", "I", false)
def tyX3 : Nat → FieldType := fun k => match k with
  | 0 => .array (.object "KeptPlans$Table")
  | 1 => .array (.object "KeptPlans$Plan")
  | 2 => .array .int
  | 3 => .int
  | 4 => .int
  | 5 => .int
  | 6 => .int
  | 7 => .int
  | 8 => .int
  | _ => .int
abbrev wsX30 : List Cond := u_ws RX3 TX3 10
theorem nmX3 : ∀ a, a < 10 → ∀ b, b < 10 → a ≠ b → (TX3 a).2.1 ≠ (TX3 b).2.1 := by decide +kernel
theorem tyX3_ok : ∀ k, k < 10 → parseFieldDescriptor (TX3 k).2.2.1 = some (tyX3 k) := by decide +kernel
abbrev cX3_init : ByteArray := prog_5_method_1_code
def yX3_init : MethodName := ⟨RX3, "<init>", "()V"⟩
abbrev cX3_copyFrom : ByteArray := prog_5_method_2_code
def yX3_copyFrom : MethodName := ⟨RX3, "copyFrom", "(LKeptPlans$State;)V"⟩
abbrev cX3_resize : ByteArray := prog_5_method_3_code
def yX3_resize : MethodName := ⟨RX3, "resize", "(IZI)V"⟩
abbrev cX3_tableUnder : ByteArray := prog_5_method_4_code
def yX3_tableUnder : MethodName := ⟨RX3, "tableUnder", "(I)LKeptPlans$Table;"⟩
abbrev cX3_priceBy : ByteArray := prog_5_method_5_code
def yX3_priceBy : MethodName := ⟨RX3, "priceBy", "(III)I"⟩
abbrev cX3_rowsMet : ByteArray := prog_5_method_6_code
def yX3_rowsMet : MethodName := ⟨RX3, "rowsMet", "(II)I"⟩
abbrev cX3_cheapestWay : ByteArray := prog_5_method_7_code
def yX3_cheapestWay : MethodName := ⟨RX3, "cheapestWay", "(II)I"⟩
abbrev cX3_rowsChangedTooMuch : ByteArray := prog_5_method_8_code
def yX3_rowsChangedTooMuch : MethodName := ⟨RX3, "rowsChangedTooMuch", "(I)Z"⟩
abbrev cX3_isTooOld : ByteArray := prog_5_method_9_code
def yX3_isTooOld : MethodName := ⟨RX3, "isTooOld", "(I)Z"⟩
abbrev cX3_isStale : ByteArray := prog_5_method_10_code
def yX3_isStale : MethodName := ⟨RX3, "isStale", "(I)Z"⟩
abbrev cX3_isTooDear : ByteArray := prog_5_method_11_code
def yX3_isTooDear : MethodName := ⟨RX3, "isTooDear", "(II)Z"⟩
abbrev cX3_whyNotUsed : ByteArray := prog_5_method_12_code
def yX3_whyNotUsed : MethodName := ⟨RX3, "whyNotUsed", "(II)I"⟩
abbrev cX3_answer : ByteArray := prog_5_method_13_code
def yX3_answer : MethodName := ⟨RX3, "answer", "(II)I"⟩
abbrev cX3_answerByPlan : ByteArray := prog_5_method_14_code
def yX3_answerByPlan : MethodName := ⟨RX3, "answerByPlan", "(II)I"⟩
abbrev cX3_answerByLooking : ByteArray := prog_5_method_15_code
def yX3_answerByLooking : MethodName := ⟨RX3, "answerByLooking", "(II)I"⟩
abbrev cX3_place : ByteArray := prog_5_method_16_code
def yX3_place : MethodName := ⟨RX3, "place", "(IIIII)V"⟩
abbrev cX3_couldKeep : ByteArray := prog_5_method_17_code
def yX3_couldKeep : MethodName := ⟨RX3, "couldKeep", "(I)Z"⟩
abbrev cX3_lacksRoomFor : ByteArray := prog_5_method_18_code
def yX3_lacksRoomFor : MethodName := ⟨RX3, "lacksRoomFor", "(I)Z"⟩
abbrev cX3_firstCrowdedOutBy : ByteArray := prog_5_method_19_code
def yX3_firstCrowdedOutBy : MethodName := ⟨RX3, "firstCrowdedOutBy", "(I)I"⟩
abbrev cX3_makeRoomFor : ByteArray := prog_5_method_20_code
def yX3_makeRoomFor : MethodName := ⟨RX3, "makeRoomFor", "(I)V"⟩
abbrev cX3_crowdOutDownTo : ByteArray := prog_5_method_21_code
def yX3_crowdOutDownTo : MethodName := ⟨RX3, "crowdOutDownTo", "(I)V"⟩
abbrev cX3_oldestUnpinned : ByteArray := prog_5_method_22_code
def yX3_oldestUnpinned : MethodName := ⟨RX3, "oldestUnpinned", "()I"⟩
abbrev cX3_keptPlansOf : ByteArray := prog_5_method_23_code
def yX3_keptPlansOf : MethodName := ⟨RX3, "keptPlansOf", "(I)I"⟩
abbrev cX3_keptPlans : ByteArray := prog_5_method_24_code
def yX3_keptPlans : MethodName := ⟨RX3, "keptPlans", "()I"⟩
abbrev cX3_pinnedPlans : ByteArray := prog_5_method_25_code
def yX3_pinnedPlans : MethodName := ⟨RX3, "pinnedPlans", "()I"⟩
abbrev cX3_stalePlans : ByteArray := prog_5_method_26_code
def yX3_stalePlans : MethodName := ⟨RX3, "stalePlans", "()I"⟩
def RX4 : String := "KeptPlans$Table"
def TX4 : u_T := fun k => match k with
  | 0 => ("KeptPlans$Table", "rows", "I", false)
  | 1 => ("KeptPlans$Table", "keys", "I", false)
  | 2 => ("KeptPlans$Table", "questions", "I", false)
  | _ => ("KeptPlans$Table", "spent", "I", false)
def tyX4 : Nat → FieldType := fun k => match k with
  | 0 => .int
  | 1 => .int
  | 2 => .int
  | _ => .int
abbrev wsX40 : List Cond := u_ws RX4 TX4 4
theorem nmX4 : ∀ a, a < 4 → ∀ b, b < 4 → a ≠ b → (TX4 a).2.1 ≠ (TX4 b).2.1 := by decide +kernel
theorem tyX4_ok : ∀ k, k < 4 → parseFieldDescriptor (TX4 k).2.2.1 = some (tyX4 k) := by decide +kernel
abbrev cX4_init : ByteArray := prog_6_method_1_code
def yX4_init : MethodName := ⟨RX4, "<init>", "()V"⟩
abbrev cX4_copyFrom : ByteArray := prog_6_method_2_code
def yX4_copyFrom : MethodName := ⟨RX4, "copyFrom", "(LKeptPlans$Table;)V"⟩
def RX5 : String := "KeptPlans"
def TX5 : u_T := fun k => match k with
  | 0 => ("KeptPlans", "now", "LKeptPlans$State;", true)
  | 1 => ("KeptPlans", "snapshot", "LKeptPlans$State;", true)
  | 2 => ("KeptPlans", "history", "LKeptPlans$History;", true)
  | 3 => ("KeptPlans", "text", "LKeptPlans$QuestionText;", true)
  | _ => ("KeptPlans", "hasSnapshot", "Z", false)
def tyX5 : Nat → FieldType := fun k => match k with
  | 0 => .object "KeptPlans$State"
  | 1 => .object "KeptPlans$State"
  | 2 => .object "KeptPlans$History"
  | 3 => .object "KeptPlans$QuestionText"
  | _ => .boolean
abbrev wsX50 : List Cond := u_ws RX5 TX5 5
theorem nmX5 : ∀ a, a < 5 → ∀ b, b < 5 → a ≠ b → (TX5 a).2.1 ≠ (TX5 b).2.1 := by decide +kernel
theorem tyX5_ok : ∀ k, k < 5 → parseFieldDescriptor (TX5 k).2.2.1 = some (tyX5 k) := by decide +kernel
abbrev cX5_init : ByteArray := prog_1_method_1_code
def yX5_init : MethodName := ⟨RX5, "<init>", "()V"⟩
abbrev cX5_table : ByteArray := prog_1_method_2_code
def yX5_table : MethodName := ⟨RX5, "table", "(IZI)I"⟩
abbrev cX5_ask : ByteArray := prog_1_method_3_code
def yX5_ask : MethodName := ⟨RX5, "ask", "(II)I"⟩
abbrev cX5_askAll : ByteArray := prog_1_method_4_code
def yX5_askAll : MethodName := ⟨RX5, "askAll", "()I"⟩
abbrev cX5_pin : ByteArray := prog_1_method_5_code
def yX5_pin : MethodName := ⟨RX5, "pin", "(IZ)I"⟩
abbrev cX5_throwOut : ByteArray := prog_1_method_6_code
def yX5_throwOut : MethodName := ⟨RX5, "throwOut", "(I)I"⟩
abbrev cX5_make : ByteArray := prog_1_method_7_code
def yX5_make : MethodName := ⟨RX5, "make", "(IIIII)I"⟩
abbrev cX5_set : ByteArray := prog_1_method_8_code
def yX5_set : MethodName := ⟨RX5, "set", "(II)I"⟩
abbrev cX5_type : ByteArray := prog_1_method_9_code
def yX5_type : MethodName := ⟨RX5, "type", "(C)I"⟩
abbrev cX5_clearText : ByteArray := prog_1_method_10_code
def yX5_clearText : MethodName := ⟨RX5, "clearText", "()I"⟩
abbrev cX5_undo : ByteArray := prog_1_method_11_code
def yX5_undo : MethodName := ⟨RX5, "undo", "()I"⟩
abbrev cX5_keep : ByteArray := prog_1_method_12_code
def yX5_keep : MethodName := ⟨RX5, "keep", "()I"⟩
abbrev cX5_restore : ByteArray := prog_1_method_13_code
def yX5_restore : MethodName := ⟨RX5, "restore", "()I"⟩
abbrev cX5_cost : ByteArray := prog_1_method_14_code
def yX5_cost : MethodName := ⟨RX5, "cost", "(III)I"⟩
abbrev cX5_cheapest : ByteArray := prog_1_method_15_code
def yX5_cheapest : MethodName := ⟨RX5, "cheapest", "(II)I"⟩
abbrev cX5_plan : ByteArray := prog_1_method_16_code
def yX5_plan : MethodName := ⟨RX5, "plan", "(II)I"⟩
abbrev cX5_reason : ByteArray := prog_1_method_17_code
def yX5_reason : MethodName := ⟨RX5, "reason", "(II)I"⟩
abbrev cX5_ifAsked : ByteArray := prog_1_method_18_code
def yX5_ifAsked : MethodName := ⟨RX5, "ifAsked", "(III)I"⟩
abbrev cX5_reach : ByteArray := prog_1_method_19_code
def yX5_reach : MethodName := ⟨RX5, "reach", "(II)I"⟩
abbrev cX5_oldest : ByteArray := prog_1_method_20_code
def yX5_oldest : MethodName := ⟨RX5, "oldest", "()I"⟩
abbrev cX5_tableOf : ByteArray := prog_1_method_21_code
def yX5_tableOf : MethodName := ⟨RX5, "tableOf", "(II)I"⟩
abbrev cX5_count : ByteArray := prog_1_method_22_code
def yX5_count : MethodName := ⟨RX5, "count", "(I)I"⟩
abbrev cX5_isTable : ByteArray := prog_1_method_23_code
def yX5_isTable : MethodName := ⟨RX5, "isTable", "(I)Z"⟩
abbrev cX5_isShape : ByteArray := prog_1_method_24_code
def yX5_isShape : MethodName := ⟨RX5, "isShape", "(I)Z"⟩
abbrev cX5_isWay : ByteArray := prog_1_method_25_code
def yX5_isWay : MethodName := ⟨RX5, "isWay", "(I)Z"⟩
abbrev cX5_hasPlan : ByteArray := prog_1_method_26_code
def yX5_hasPlan : MethodName := ⟨RX5, "hasPlan", "(I)Z"⟩
abbrev cX5_leastNumberOf : ByteArray := prog_1_method_27_code
def yX5_leastNumberOf : MethodName := ⟨RX5, "leastNumberOf", "(I)I"⟩
abbrev cX5_isNumberOf : ByteArray := prog_1_method_28_code
def yX5_isNumberOf : MethodName := ⟨RX5, "isNumberOf", "(II)Z"⟩
abbrev cX5_bitsOf : ByteArray := prog_1_method_29_code
def yX5_bitsOf : MethodName := ⟨RX5, "bitsOf", "(I)I"⟩
abbrev cX5_quotient : ByteArray := prog_1_method_30_code
def yX5_quotient : MethodName := ⟨RX5, "quotient", "(II)I"⟩
def RX6 : String := "KeptPlansModel"
def TX6 : u_T := fun k => match k with
  | 0 => ("KeptPlansModel", "s", "[I", true)
  | 1 => ("KeptPlansModel", "states", "I", false)
  | 2 => ("KeptPlansModel", "isKept", "Z", false)
  | 3 => ("KeptPlansModel", "text", "[C", true)
  | 4 => ("KeptPlansModel", "typed", "I", false)
  | 5 => ("KeptPlansModel", "at", "I", false)
  | 6 => ("KeptPlansModel", "order", "I", false)
  | 7 => ("KeptPlansModel", "table", "I", false)
  | 8 => ("KeptPlansModel", "number", "I", false)
  | 9 => ("KeptPlansModel", "way", "I", false)
  | 10 => ("KeptPlansModel", "isBad", "Z", false)
  | _ => ("KeptPlansModel", "gone", "I", false)
def tyX6 : Nat → FieldType := fun k => match k with
  | 0 => .array .int
  | 1 => .int
  | 2 => .boolean
  | 3 => .array .char
  | 4 => .int
  | 5 => .int
  | 6 => .int
  | 7 => .int
  | 8 => .int
  | 9 => .int
  | 10 => .boolean
  | _ => .int
abbrev wsX60 : List Cond := u_ws RX6 TX6 12
theorem nmX6 : ∀ a, a < 12 → ∀ b, b < 12 → a ≠ b → (TX6 a).2.1 ≠ (TX6 b).2.1 := by decide +kernel
theorem tyX6_ok : ∀ k, k < 12 → parseFieldDescriptor (TX6 k).2.2.1 = some (tyX6 k) := by decide +kernel
abbrev cX6_init : ByteArray := prog_8_method_1_code
def yX6_init : MethodName := ⟨RX6, "<init>", "()V"⟩
abbrev cX6_in : ByteArray := prog_8_method_2_code
def yX6_in : MethodName := ⟨RX6, "in", "(III)Z"⟩
abbrev cX6_isShape : ByteArray := prog_8_method_3_code
def yX6_isShape : MethodName := ⟨RX6, "isShape", "(I)Z"⟩
abbrev cX6_isNumber : ByteArray := prog_8_method_4_code
def yX6_isNumber : MethodName := ⟨RX6, "isNumber", "(II)Z"⟩
abbrev cX6_planAt : ByteArray := prog_8_method_5_code
def yX6_planAt : MethodName := ⟨RX6, "planAt", "(II)I"⟩
abbrev cX6_copies : ByteArray := prog_8_method_6_code
def yX6_copies : MethodName := ⟨RX6, "copies", "(II)V"⟩
abbrev cX6_records : ByteArray := prog_8_method_7_code
def yX6_records : MethodName := ⟨RX6, "records", "()V"⟩
abbrev cX6_bits : ByteArray := prog_8_method_8_code
def yX6_bits : MethodName := ⟨RX6, "bits", "(I)I"⟩
abbrev cX6_costs : ByteArray := prog_8_method_9_code
def yX6_costs : MethodName := ⟨RX6, "costs", "(IIII)I"⟩
abbrev cX6_cheapestOf : ByteArray := prog_8_method_10_code
def yX6_cheapestOf : MethodName := ⟨RX6, "cheapestOf", "(III)I"⟩
abbrev cX6_kept : ByteArray := prog_8_method_11_code
def yX6_kept : MethodName := ⟨RX6, "kept", "(I)I"⟩
abbrev cX6_isChanged : ByteArray := prog_8_method_12_code
def yX6_isChanged : MethodName := ⟨RX6, "isChanged", "(II)Z"⟩
abbrev cX6_age : ByteArray := prog_8_method_13_code
def yX6_age : MethodName := ⟨RX6, "age", "(II)I"⟩
abbrev cX6_isOld : ByteArray := prog_8_method_14_code
def yX6_isOld : MethodName := ⟨RX6, "isOld", "(II)Z"⟩
abbrev cX6_why : ByteArray := prog_8_method_15_code
def yX6_why : MethodName := ⟨RX6, "why", "(III)I"⟩
abbrev cX6_oldestOf : ByteArray := prog_8_method_16_code
def yX6_oldestOf : MethodName := ⟨RX6, "oldestOf", "(I)I"⟩
abbrev cX6_throwsOldest : ByteArray := prog_8_method_17_code
def yX6_throwsOldest : MethodName := ⟨RX6, "throwsOldest", "(I)V"⟩
abbrev cX6_hasRoom : ByteArray := prog_8_method_18_code
def yX6_hasRoom : MethodName := ⟨RX6, "hasRoom", "(II)Z"⟩
abbrev cX6_lays : ByteArray := prog_8_method_19_code
def yX6_lays : MethodName := ⟨RX6, "lays", "(IIIIII)V"⟩
abbrev cX6_asks : ByteArray := prog_8_method_20_code
def yX6_asks : MethodName := ⟨RX6, "asks", "(III)I"⟩
abbrev cX6_table : ByteArray := prog_8_method_21_code
def yX6_table : MethodName := ⟨RX6, "table", "(IZI)I"⟩
abbrev cX6_ask : ByteArray := prog_8_method_22_code
def yX6_ask : MethodName := ⟨RX6, "ask", "(II)I"⟩
abbrev cX6_isAt : ByteArray := prog_8_method_23_code
def yX6_isAt : MethodName := ⟨RX6, "isAt", "(C)Z"⟩
abbrev cX6_takes : ByteArray := prog_8_method_24_code
def yX6_takes : MethodName := ⟨RX6, "takes", "(C)Z"⟩
abbrev cX6_isDigit : ByteArray := prog_8_method_25_code
def yX6_isDigit : MethodName := ⟨RX6, "isDigit", "(CC)Z"⟩
abbrev cX6_word : ByteArray := prog_8_method_26_code
def yX6_word : MethodName := ⟨RX6, "word", "()Z"⟩
abbrev cX6_reads : ByteArray := prog_8_method_27_code
def yX6_reads : MethodName := ⟨RX6, "reads", "()Z"⟩
abbrev cX6_does : ByteArray := prog_8_method_28_code
def yX6_does : MethodName := ⟨RX6, "does", "()I"⟩
abbrev cX6_goes : ByteArray := prog_8_method_29_code
def yX6_goes : MethodName := ⟨RX6, "goes", "(Z)I"⟩
abbrev cX6_askAll : ByteArray := prog_8_method_30_code
def yX6_askAll : MethodName := ⟨RX6, "askAll", "()I"⟩
abbrev cX6_hasPlan : ByteArray := prog_8_method_31_code
def yX6_hasPlan : MethodName := ⟨RX6, "hasPlan", "(I)Z"⟩
abbrev cX6_pinned : ByteArray := prog_8_method_32_code
def yX6_pinned : MethodName := ⟨RX6, "pinned", "()I"⟩
abbrev cX6_pin : ByteArray := prog_8_method_33_code
def yX6_pin : MethodName := ⟨RX6, "pin", "(IZ)I"⟩
abbrev cX6_throwOut : ByteArray := prog_8_method_34_code
def yX6_throwOut : MethodName := ⟨RX6, "throwOut", "(I)I"⟩
abbrev cX6_make : ByteArray := prog_8_method_35_code
def yX6_make : MethodName := ⟨RX6, "make", "(IIIII)I"⟩
abbrev cX6_lowest : ByteArray := prog_8_method_36_code
def yX6_lowest : MethodName := ⟨RX6, "lowest", "(I)I"⟩
abbrev cX6_highest : ByteArray := prog_8_method_37_code
def yX6_highest : MethodName := ⟨RX6, "highest", "(I)I"⟩
abbrev cX6_set : ByteArray := prog_8_method_38_code
def yX6_set : MethodName := ⟨RX6, "set", "(II)I"⟩
abbrev cX6_type : ByteArray := prog_8_method_39_code
def yX6_type : MethodName := ⟨RX6, "type", "(C)I"⟩
abbrev cX6_clearText : ByteArray := prog_8_method_40_code
def yX6_clearText : MethodName := ⟨RX6, "clearText", "()I"⟩
abbrev cX6_undo : ByteArray := prog_8_method_41_code
def yX6_undo : MethodName := ⟨RX6, "undo", "()I"⟩
abbrev cX6_keep : ByteArray := prog_8_method_42_code
def yX6_keep : MethodName := ⟨RX6, "keep", "()I"⟩
abbrev cX6_restore : ByteArray := prog_8_method_43_code
def yX6_restore : MethodName := ⟨RX6, "restore", "()I"⟩
abbrev cX6_cost : ByteArray := prog_8_method_44_code
def yX6_cost : MethodName := ⟨RX6, "cost", "(III)I"⟩
abbrev cX6_cheapest : ByteArray := prog_8_method_45_code
def yX6_cheapest : MethodName := ⟨RX6, "cheapest", "(II)I"⟩
abbrev cX6_plan : ByteArray := prog_8_method_46_code
def yX6_plan : MethodName := ⟨RX6, "plan", "(II)I"⟩
abbrev cX6_reason : ByteArray := prog_8_method_47_code
def yX6_reason : MethodName := ⟨RX6, "reason", "(II)I"⟩
abbrev cX6_wouldAsk : ByteArray := prog_8_method_48_code
def yX6_wouldAsk : MethodName := ⟨RX6, "wouldAsk", "(III)I"⟩
abbrev cX6_ifAsked : ByteArray := prog_8_method_49_code
def yX6_ifAsked : MethodName := ⟨RX6, "ifAsked", "(III)I"⟩
abbrev cX6_reach : ByteArray := prog_8_method_50_code
def yX6_reach : MethodName := ⟨RX6, "reach", "(II)I"⟩
abbrev cX6_oldest : ByteArray := prog_8_method_51_code
def yX6_oldest : MethodName := ⟨RX6, "oldest", "()I"⟩
abbrev cX6_keptFor : ByteArray := prog_8_method_52_code
def yX6_keptFor : MethodName := ⟨RX6, "keptFor", "(I)I"⟩
abbrev cX6_tableOf : ByteArray := prog_8_method_53_code
def yX6_tableOf : MethodName := ⟨RX6, "tableOf", "(II)I"⟩
abbrev cX6_stale : ByteArray := prog_8_method_54_code
def yX6_stale : MethodName := ⟨RX6, "stale", "()I"⟩
abbrev cX6_count : ByteArray := prog_8_method_55_code
def yX6_count : MethodName := ⟨RX6, "count", "(I)I"⟩
def RJ9 : String := "java/lang/Math"
def TJ9 : u_T := fun k => match k with
  | _ => ("", "", "", false)
def tyJ9 : Nat → FieldType := fun k => match k with
  | _ => .int
abbrev wsJ90 : List Cond := u_ws RJ9 TJ9 0
theorem nmJ9 : ∀ a, a < 0 → ∀ b, b < 0 → a ≠ b → (TJ9 a).2.1 ≠ (TJ9 b).2.1 := by decide +kernel
theorem tyJ9_ok : ∀ k, k < 0 → parseFieldDescriptor (TJ9 k).2.2.1 = some (tyJ9 k) := by decide +kernel
abbrev cJ9_abs_0f7a4 : ByteArray := prog_9_method_59_code
def yJ9_abs_0f7a4 : MethodName := ⟨RJ9, "abs", "(I)I"⟩
abbrev cJ9_min_7cf53 : ByteArray := prog_9_method_69_code
def yJ9_min_7cf53 : MethodName := ⟨RJ9, "min", "(II)I"⟩
def RJ0 : String := "java/lang/String"
def TJ0 : u_T := fun k => match k with
  | _ => ("", "", "", false)
def tyJ0 : Nat → FieldType := fun k => match k with
  | _ => .int
abbrev wsJ00 : List Cond := u_ws RJ0 TJ0 0
theorem nmJ0 : ∀ a, a < 0 → ∀ b, b < 0 → a ≠ b → (TJ0 a).2.1 ≠ (TJ0 b).2.1 := by decide +kernel
theorem tyJ0_ok : ∀ k, k < 0 → parseFieldDescriptor (TJ0 k).2.2.1 = some (tyJ0 k) := by decide +kernel
abbrev cJ0_length_8abf5 : ByteArray := prog_10_method_54_code
def yJ0_length_8abf5 : MethodName := ⟨RJ0, "length", "()I"⟩
abbrev cJ0_charAt_5068e : ByteArray := prog_10_method_56_code
def yJ0_charAt_5068e : MethodName := ⟨RJ0, "charAt", "(I)C"⟩
abbrev cJ0_coder_7d493 : ByteArray := prog_10_method_152_code
def yJ0_coder_7d493 : MethodName := ⟨RJ0, "coder", "()B"⟩
abbrev cJ0_isLatin1_aae02 : ByteArray := prog_10_method_154_code
def yJ0_isLatin1_aae02 : MethodName := ⟨RJ0, "isLatin1", "()Z"⟩
abbrev cJ0_checkIndex_df160 : ByteArray := prog_10_method_155_code
def yJ0_checkIndex_df160 : MethodName := ⟨RJ0, "checkIndex", "(II)V"⟩
def RJ1 : String := "java/lang/StringLatin1"
def TJ1 : u_T := fun k => match k with
  | _ => ("", "", "", false)
def tyJ1 : Nat → FieldType := fun k => match k with
  | _ => .int
abbrev wsJ10 : List Cond := u_ws RJ1 TJ1 0
theorem nmJ1 : ∀ a, a < 0 → ∀ b, b < 0 → a ≠ b → (TJ1 a).2.1 ≠ (TJ1 b).2.1 := by decide +kernel
theorem tyJ1_ok : ∀ k, k < 0 → parseFieldDescriptor (TJ1 k).2.2.1 = some (tyJ1 k) := by decide +kernel
abbrev cJ1_charAt_3b067 : ByteArray := prog_11_method_2_code
def yJ1_charAt_3b067 : MethodName := ⟨RJ1, "charAt", "([BI)C"⟩
def RJ2 : String := "java/lang/StringUTF16"
def TJ2 : u_T := fun k => match k with
  | _ => ("", "", "", false)
def tyJ2 : Nat → FieldType := fun k => match k with
  | _ => .int
abbrev wsJ20 : List Cond := u_ws RJ2 TJ2 0
theorem nmJ2 : ∀ a, a < 0 → ∀ b, b < 0 → a ≠ b → (TJ2 a).2.1 ≠ (TJ2 b).2.1 := by decide +kernel
theorem tyJ2_ok : ∀ k, k < 0 → parseFieldDescriptor (TJ2 k).2.2.1 = some (tyJ2 k) := by decide +kernel
abbrev cJ2_getChar_3b067 : ByteArray := prog_12_method_5_code
def yJ2_getChar_3b067 : MethodName := ⟨RJ2, "getChar", "([BI)C"⟩
abbrev cJ2_length_9d52b : ByteArray := prog_12_method_6_code
def yJ2_length_9d52b : MethodName := ⟨RJ2, "length", "([B)I"⟩
abbrev cJ2_charAt_3b067 : ByteArray := prog_12_method_83_code
def yJ2_charAt_3b067 : MethodName := ⟨RJ2, "charAt", "([BI)C"⟩
abbrev cJ2_checkIndex_2214a : ByteArray := prog_12_method_91_code
def yJ2_checkIndex_2214a : MethodName := ⟨RJ2, "checkIndex", "(I[B)V"⟩
def RJ3 : String := "jdk/internal/util/Preconditions"
def TJ3 : u_T := fun k => match k with
  | _ => ("", "", "", false)
def tyJ3 : Nat → FieldType := fun k => match k with
  | _ => .int
abbrev wsJ30 : List Cond := u_ws RJ3 TJ3 0
theorem nmJ3 : ∀ a, a < 0 → ∀ b, b < 0 → a ≠ b → (TJ3 a).2.1 ≠ (TJ3 b).2.1 := by decide +kernel
theorem tyJ3_ok : ∀ k, k < 0 → parseFieldDescriptor (TJ3 k).2.2.1 = some (tyJ3 k) := by decide +kernel
abbrev cJ3_checkIndex_8e157 : ByteArray := prog_13_method_11_code
def yJ3_checkIndex_8e157 : MethodName := ⟨RJ3, "checkIndex", "(IILjava/util/function/BiFunction;)I"⟩
def RL : String := "KeptPlansLaw"
abbrev cL_law : ByteArray := code
def yL_law : MethodName := ⟨RL, "law", "([I)Z"⟩
abbrev vwCl : List vw_C := [(RX0, TX0, 3), (RX1, TX1, 11), (RX2, TX2, 7), (RX3, TX3, 10), (RX4, TX4, 4), (RX5, TX5, 5), (RX6, TX6, 12)]
def GW : List Cond := lw_tbl.filter goodWord
theorem gw_good : ∀ w ∈ GW, goodWord w = true := fun _ h => (List.mem_filter.mp h).2
theorem gw_t {w : Cond} (h : w ∈ tables_1) (g : goodWord w = true) : w ∈ GW := List.mem_filter.mpr ⟨List.mem_append_right _ h, g⟩
set_option maxRecDepth 100000 in
theorem q_0 : (.initialized RL) ∈ GW := gw_t (List.mem_of_getElem? (i := 0) (by decide +kernel)) rfl
set_option maxRecDepth 100000 in
theorem q_1 : (.initialized RX5) ∈ GW := gw_t (List.mem_of_getElem? (i := 1) (by decide +kernel)) rfl
set_option maxRecDepth 100000 in
theorem q_2 : (.initialized RX3) ∈ GW := gw_t (List.mem_of_getElem? (i := 2) (by decide +kernel)) rfl
set_option maxRecDepth 100000 in
theorem q_3 : (.initialized RX4) ∈ GW := gw_t (List.mem_of_getElem? (i := 3) (by decide +kernel)) rfl
set_option maxRecDepth 100000 in
theorem q_4 : (.initialized RX1) ∈ GW := gw_t (List.mem_of_getElem? (i := 4) (by decide +kernel)) rfl
set_option maxRecDepth 100000 in
theorem q_5 : (.initialized RX0) ∈ GW := gw_t (List.mem_of_getElem? (i := 5) (by decide +kernel)) rfl
set_option maxRecDepth 100000 in
theorem q_6 : (.initialized RX2) ∈ GW := gw_t (List.mem_of_getElem? (i := 6) (by decide +kernel)) rfl
set_option maxRecDepth 100000 in
theorem q_7 : (.initialized RX6) ∈ GW := gw_t (List.mem_of_getElem? (i := 7) (by decide +kernel)) rfl
set_option maxRecDepth 100000 in
theorem q_8 : (.initialized RJ9) ∈ GW := gw_t (List.mem_of_getElem? (i := 8) (by decide +kernel)) rfl
set_option maxRecDepth 100000 in
theorem q_9 : (.initialized RJ0) ∈ GW := gw_t (List.mem_of_getElem? (i := 9) (by decide +kernel)) rfl
set_option maxRecDepth 100000 in
theorem q_10 : (.initialized RJ1) ∈ GW := gw_t (List.mem_of_getElem? (i := 10) (by decide +kernel)) rfl
set_option maxRecDepth 100000 in
theorem q_11 : (.initialized RJ3) ∈ GW := gw_t (List.mem_of_getElem? (i := 11) (by decide +kernel)) rfl
set_option maxRecDepth 100000 in
theorem q_12 : (.initialized RJ2) ∈ GW := gw_t (List.mem_of_getElem? (i := 12) (by decide +kernel)) rfl
set_option maxRecDepth 100000 in
theorem q_13 : (.classLink RL 7 "KeptPlans") ∈ GW := gw_t (List.mem_of_getElem? (i := 13) (by decide +kernel)) rfl
set_option maxRecDepth 100000 in
theorem q_14 : (.instantiable RX5 5) ∈ GW := gw_t (List.mem_of_getElem? (i := 14) (by decide +kernel)) rfl
set_option maxRecDepth 100000 in
theorem q_15 : (.methodLink RL 9 yX5_init) ∈ GW := gw_t (List.mem_of_getElem? (i := 15) (by decide +kernel)) rfl
set_option maxRecDepth 100000 in
theorem q_16 : (.instanceMethod yX5_init) ∈ GW := gw_t (List.mem_of_getElem? (i := 16) (by decide +kernel)) rfl
set_option maxRecDepth 100000 in
theorem q_17 : (.code yX5_init cX5_init 1 none) ∈ GW := gw_t (List.mem_of_getElem? (i := 17) (by decide +kernel)) rfl
set_option maxRecDepth 100000 in
theorem q_18 : (.methodLink RX5 1 objectInit) ∈ GW := gw_t (List.mem_of_getElem? (i := 18) (by decide +kernel)) rfl
set_option maxRecDepth 100000 in
theorem q_19 : (.instanceMethod objectInit) ∈ GW := gw_t (List.mem_of_getElem? (i := 19) (by decide +kernel)) rfl
set_option maxRecDepth 100000 in
theorem q_20 : (.code objectInit object_method_1_code 1 none) ∈ GW := gw_t (List.mem_of_getElem? (i := 20) (by decide +kernel)) rfl
set_option maxRecDepth 100000 in
theorem q_21 : (.classLink RX5 7 "KeptPlans$State") ∈ GW := gw_t (List.mem_of_getElem? (i := 21) (by decide +kernel)) rfl
set_option maxRecDepth 100000 in
theorem q_22 : (.instantiable RX3 10) ∈ GW := gw_t (List.mem_of_getElem? (i := 22) (by decide +kernel)) rfl
set_option maxRecDepth 100000 in
theorem q_23 : (.methodLink RX5 9 yX3_init) ∈ GW := gw_t (List.mem_of_getElem? (i := 23) (by decide +kernel)) rfl
set_option maxRecDepth 100000 in
theorem q_24 : (.instanceMethod yX3_init) ∈ GW := gw_t (List.mem_of_getElem? (i := 24) (by decide +kernel)) rfl
set_option maxRecDepth 100000 in
theorem q_25 : (.code yX3_init cX3_init 2 none) ∈ GW := gw_t (List.mem_of_getElem? (i := 25) (by decide +kernel)) rfl
set_option maxRecDepth 100000 in
theorem q_26 : (.methodLink RX3 3 objectInit) ∈ GW := gw_t (List.mem_of_getElem? (i := 26) (by decide +kernel)) rfl
set_option maxRecDepth 100000 in
theorem q_27 : (.classLink RX3 9 "KeptPlans$Table") ∈ GW := gw_t (List.mem_of_getElem? (i := 27) (by decide +kernel)) rfl
set_option maxRecDepth 100000 in
theorem q_29 : (.classLink RX3 17 "KeptPlans$Plan") ∈ GW := gw_t (List.mem_of_getElem? (i := 29) (by decide +kernel)) rfl
set_option maxRecDepth 100000 in
theorem q_31 : (.instantiable RX4 4) ∈ GW := gw_t (List.mem_of_getElem? (i := 31) (by decide +kernel)) rfl
set_option maxRecDepth 100000 in
theorem q_32 : (.methodLink RX3 27 yX4_init) ∈ GW := gw_t (List.mem_of_getElem? (i := 32) (by decide +kernel)) rfl
set_option maxRecDepth 100000 in
theorem q_33 : (.instanceMethod yX4_init) ∈ GW := gw_t (List.mem_of_getElem? (i := 33) (by decide +kernel)) rfl
set_option maxRecDepth 100000 in
theorem q_34 : (.code yX4_init cX4_init 1 none) ∈ GW := gw_t (List.mem_of_getElem? (i := 34) (by decide +kernel)) rfl
set_option maxRecDepth 100000 in
theorem q_35 : (.methodLink RX4 1 objectInit) ∈ GW := gw_t (List.mem_of_getElem? (i := 35) (by decide +kernel)) rfl
set_option maxRecDepth 100000 in
theorem q_36 : (.fieldLink RX4 7 "KeptPlans$Table" "rows" "I") ∈ GW := gw_t (List.mem_of_getElem? (i := 36) (by decide +kernel)) rfl
set_option maxRecDepth 100000 in
theorem q_37 : (.fieldLink RX5 51 "KeptPlans$Table" "rows" "I") ∈ GW := gw_t (List.mem_of_getElem? (i := 37) (by decide +kernel)) rfl
set_option maxRecDepth 100000 in
theorem q_38 : (.fieldLink RX3 61 "KeptPlans$Table" "rows" "I") ∈ GW := gw_t (List.mem_of_getElem? (i := 38) (by decide +kernel)) rfl
set_option maxRecDepth 100000 in
theorem q_39 : (.fieldLink RX4 13 "KeptPlans$Table" "keys" "I") ∈ GW := gw_t (List.mem_of_getElem? (i := 39) (by decide +kernel)) rfl
set_option maxRecDepth 100000 in
theorem q_40 : (.fieldLink RX5 45 "KeptPlans$Table" "keys" "I") ∈ GW := gw_t (List.mem_of_getElem? (i := 40) (by decide +kernel)) rfl
set_option maxRecDepth 100000 in
theorem q_41 : (.fieldLink RX3 58 "KeptPlans$Table" "keys" "I") ∈ GW := gw_t (List.mem_of_getElem? (i := 41) (by decide +kernel)) rfl
set_option maxRecDepth 100000 in
theorem q_42 : (.fieldLink RX4 16 "KeptPlans$Table" "questions" "I") ∈ GW := gw_t (List.mem_of_getElem? (i := 42) (by decide +kernel)) rfl
set_option maxRecDepth 100000 in
theorem q_43 : (.fieldLink RX3 125 "KeptPlans$Table" "questions" "I") ∈ GW := gw_t (List.mem_of_getElem? (i := 43) (by decide +kernel)) rfl
set_option maxRecDepth 100000 in
theorem q_44 : (.fieldLink RX5 210 "KeptPlans$Table" "questions" "I") ∈ GW := gw_t (List.mem_of_getElem? (i := 44) (by decide +kernel)) rfl
set_option maxRecDepth 100000 in
theorem q_45 : (.fieldLink RX4 19 "KeptPlans$Table" "spent" "I") ∈ GW := gw_t (List.mem_of_getElem? (i := 45) (by decide +kernel)) rfl
set_option maxRecDepth 100000 in
theorem q_46 : (.fieldLink RX3 126 "KeptPlans$Table" "spent" "I") ∈ GW := gw_t (List.mem_of_getElem? (i := 46) (by decide +kernel)) rfl
set_option maxRecDepth 100000 in
theorem q_47 : (.fieldLink RX5 211 "KeptPlans$Table" "spent" "I") ∈ GW := gw_t (List.mem_of_getElem? (i := 47) (by decide +kernel)) rfl
set_option maxRecDepth 100000 in
theorem q_57 : (.arrayClass .int) ∈ GW := gw_t (List.mem_of_getElem? (i := 57) (by decide +kernel)) rfl
set_option maxRecDepth 100000 in
theorem q_58 : (.instantiable RX1 11) ∈ GW := gw_t (List.mem_of_getElem? (i := 58) (by decide +kernel)) rfl
set_option maxRecDepth 100000 in
theorem q_60 : (.instanceMethod yX1_init) ∈ GW := gw_t (List.mem_of_getElem? (i := 60) (by decide +kernel)) rfl
set_option maxRecDepth 100000 in
theorem q_61 : (.code yX1_init cX1_init 1 none) ∈ GW := gw_t (List.mem_of_getElem? (i := 61) (by decide +kernel)) rfl
set_option maxRecDepth 100000 in
theorem q_62 : (.methodLink RX1 1 objectInit) ∈ GW := gw_t (List.mem_of_getElem? (i := 62) (by decide +kernel)) rfl
set_option maxRecDepth 100000 in
theorem q_63 : (.fieldLink RX1 7 "KeptPlans$Plan" "kept" "Z") ∈ GW := gw_t (List.mem_of_getElem? (i := 63) (by decide +kernel)) rfl
set_option maxRecDepth 100000 in
theorem q_64 : (.fieldLink RX5 104 "KeptPlans$Plan" "kept" "Z") ∈ GW := gw_t (List.mem_of_getElem? (i := 64) (by decide +kernel)) rfl
set_option maxRecDepth 100000 in
theorem q_65 : (.fieldLink RX3 106 "KeptPlans$Plan" "kept" "Z") ∈ GW := gw_t (List.mem_of_getElem? (i := 65) (by decide +kernel)) rfl
set_option maxRecDepth 100000 in
theorem q_66 : (.fieldLink RX1 13 "KeptPlans$Plan" "pinned" "Z") ∈ GW := gw_t (List.mem_of_getElem? (i := 66) (by decide +kernel)) rfl
set_option maxRecDepth 100000 in
theorem q_67 : (.fieldLink RX5 96 "KeptPlans$Plan" "pinned" "Z") ∈ GW := gw_t (List.mem_of_getElem? (i := 67) (by decide +kernel)) rfl
set_option maxRecDepth 100000 in
theorem q_68 : (.fieldLink RX3 154 "KeptPlans$Plan" "pinned" "Z") ∈ GW := gw_t (List.mem_of_getElem? (i := 68) (by decide +kernel)) rfl
set_option maxRecDepth 100000 in
theorem q_69 : (.fieldLink RX1 16 "KeptPlans$Plan" "way" "I") ∈ GW := gw_t (List.mem_of_getElem? (i := 69) (by decide +kernel)) rfl
set_option maxRecDepth 100000 in
theorem q_70 : (.fieldLink RX3 127 "KeptPlans$Plan" "way" "I") ∈ GW := gw_t (List.mem_of_getElem? (i := 70) (by decide +kernel)) rfl
set_option maxRecDepth 100000 in
theorem q_71 : (.fieldLink RX5 160 "KeptPlans$Plan" "way" "I") ∈ GW := gw_t (List.mem_of_getElem? (i := 71) (by decide +kernel)) rfl
set_option maxRecDepth 100000 in
theorem q_72 : (.fieldLink RX1 20 "KeptPlans$Plan" "least" "I") ∈ GW := gw_t (List.mem_of_getElem? (i := 72) (by decide +kernel)) rfl
set_option maxRecDepth 100000 in
theorem q_73 : (.fieldLink RX3 110 "KeptPlans$Plan" "least" "I") ∈ GW := gw_t (List.mem_of_getElem? (i := 73) (by decide +kernel)) rfl
set_option maxRecDepth 100000 in
theorem q_74 : (.fieldLink RX5 163 "KeptPlans$Plan" "least" "I") ∈ GW := gw_t (List.mem_of_getElem? (i := 74) (by decide +kernel)) rfl
set_option maxRecDepth 100000 in
theorem q_75 : (.fieldLink RX1 23 "KeptPlans$Plan" "most" "I") ∈ GW := gw_t (List.mem_of_getElem? (i := 75) (by decide +kernel)) rfl
set_option maxRecDepth 100000 in
theorem q_76 : (.fieldLink RX3 113 "KeptPlans$Plan" "most" "I") ∈ GW := gw_t (List.mem_of_getElem? (i := 76) (by decide +kernel)) rfl
set_option maxRecDepth 100000 in
theorem q_77 : (.fieldLink RX5 166 "KeptPlans$Plan" "most" "I") ∈ GW := gw_t (List.mem_of_getElem? (i := 77) (by decide +kernel)) rfl
set_option maxRecDepth 100000 in
theorem q_78 : (.fieldLink RX1 26 "KeptPlans$Plan" "number" "I") ∈ GW := gw_t (List.mem_of_getElem? (i := 78) (by decide +kernel)) rfl
set_option maxRecDepth 100000 in
theorem q_79 : (.fieldLink RX3 157 "KeptPlans$Plan" "number" "I") ∈ GW := gw_t (List.mem_of_getElem? (i := 79) (by decide +kernel)) rfl
set_option maxRecDepth 100000 in
theorem q_80 : (.fieldLink RX5 169 "KeptPlans$Plan" "number" "I") ∈ GW := gw_t (List.mem_of_getElem? (i := 80) (by decide +kernel)) rfl
set_option maxRecDepth 100000 in
theorem q_81 : (.fieldLink RX1 29 "KeptPlans$Plan" "guess" "I") ∈ GW := gw_t (List.mem_of_getElem? (i := 81) (by decide +kernel)) rfl
set_option maxRecDepth 100000 in
theorem q_82 : (.fieldLink RX3 103 "KeptPlans$Plan" "guess" "I") ∈ GW := gw_t (List.mem_of_getElem? (i := 82) (by decide +kernel)) rfl
set_option maxRecDepth 100000 in
theorem q_83 : (.fieldLink RX5 172 "KeptPlans$Plan" "guess" "I") ∈ GW := gw_t (List.mem_of_getElem? (i := 83) (by decide +kernel)) rfl
set_option maxRecDepth 100000 in
theorem q_84 : (.fieldLink RX1 32 "KeptPlans$Plan" "rows" "I") ∈ GW := gw_t (List.mem_of_getElem? (i := 84) (by decide +kernel)) rfl
set_option maxRecDepth 100000 in
theorem q_85 : (.fieldLink RX3 89 "KeptPlans$Plan" "rows" "I") ∈ GW := gw_t (List.mem_of_getElem? (i := 85) (by decide +kernel)) rfl
set_option maxRecDepth 100000 in
theorem q_86 : (.fieldLink RX5 190 "KeptPlans$Plan" "rows" "I") ∈ GW := gw_t (List.mem_of_getElem? (i := 86) (by decide +kernel)) rfl
set_option maxRecDepth 100000 in
theorem q_87 : (.fieldLink RX1 35 "KeptPlans$Plan" "uses" "I") ∈ GW := gw_t (List.mem_of_getElem? (i := 87) (by decide +kernel)) rfl
set_option maxRecDepth 100000 in
theorem q_88 : (.fieldLink RX3 130 "KeptPlans$Plan" "uses" "I") ∈ GW := gw_t (List.mem_of_getElem? (i := 88) (by decide +kernel)) rfl
set_option maxRecDepth 100000 in
theorem q_89 : (.fieldLink RX5 184 "KeptPlans$Plan" "uses" "I") ∈ GW := gw_t (List.mem_of_getElem? (i := 89) (by decide +kernel)) rfl
set_option maxRecDepth 100000 in
theorem q_90 : (.fieldLink RX1 38 "KeptPlans$Plan" "madeAt" "I") ∈ GW := gw_t (List.mem_of_getElem? (i := 90) (by decide +kernel)) rfl
set_option maxRecDepth 100000 in
theorem q_91 : (.fieldLink RX3 93 "KeptPlans$Plan" "madeAt" "I") ∈ GW := gw_t (List.mem_of_getElem? (i := 91) (by decide +kernel)) rfl
set_option maxRecDepth 100000 in
theorem q_92 : (.fieldLink RX5 178 "KeptPlans$Plan" "madeAt" "I") ∈ GW := gw_t (List.mem_of_getElem? (i := 92) (by decide +kernel)) rfl
set_option maxRecDepth 100000 in
theorem q_93 : (.fieldLink RX1 41 "KeptPlans$Plan" "usedAt" "I") ∈ GW := gw_t (List.mem_of_getElem? (i := 93) (by decide +kernel)) rfl
set_option maxRecDepth 100000 in
theorem q_94 : (.fieldLink RX3 133 "KeptPlans$Plan" "usedAt" "I") ∈ GW := gw_t (List.mem_of_getElem? (i := 94) (by decide +kernel)) rfl
set_option maxRecDepth 100000 in
theorem q_95 : (.fieldLink RX5 187 "KeptPlans$Plan" "usedAt" "I") ∈ GW := gw_t (List.mem_of_getElem? (i := 95) (by decide +kernel)) rfl
set_option maxRecDepth 100000 in
theorem q_119 : (.fieldLink RX3 11 "KeptPlans$State" "tables" "[LKeptPlans$Table;") ∈ GW := gw_t (List.mem_of_getElem? (i := 119) (by decide +kernel)) rfl
set_option maxRecDepth 100000 in
theorem q_120 : (.fieldLink RX5 41 "KeptPlans$State" "tables" "[LKeptPlans$Table;") ∈ GW := gw_t (List.mem_of_getElem? (i := 120) (by decide +kernel)) rfl
set_option maxRecDepth 100000 in
theorem q_121 : (.fieldLink RX3 19 "KeptPlans$State" "plans" "[LKeptPlans$Plan;") ∈ GW := gw_t (List.mem_of_getElem? (i := 121) (by decide +kernel)) rfl
set_option maxRecDepth 100000 in
theorem q_122 : (.fieldLink RX5 92 "KeptPlans$State" "plans" "[LKeptPlans$Plan;") ∈ GW := gw_t (List.mem_of_getElem? (i := 122) (by decide +kernel)) rfl
set_option maxRecDepth 100000 in
theorem q_123 : (.fieldLink RX3 23 "KeptPlans$State" "settings" "[I") ∈ GW := gw_t (List.mem_of_getElem? (i := 123) (by decide +kernel)) rfl
set_option maxRecDepth 100000 in
theorem q_124 : (.fieldLink RX5 131 "KeptPlans$State" "settings" "[I") ∈ GW := gw_t (List.mem_of_getElem? (i := 124) (by decide +kernel)) rfl
set_option maxRecDepth 100000 in
theorem q_125 : (.fieldLink RX3 36 "KeptPlans$State" "questions" "I") ∈ GW := gw_t (List.mem_of_getElem? (i := 125) (by decide +kernel)) rfl
set_option maxRecDepth 100000 in
theorem q_126 : (.fieldLink RX5 175 "KeptPlans$State" "questions" "I") ∈ GW := gw_t (List.mem_of_getElem? (i := 126) (by decide +kernel)) rfl
set_option maxRecDepth 100000 in
theorem q_127 : (.fieldLink RX3 40 "KeptPlans$State" "hits" "I") ∈ GW := gw_t (List.mem_of_getElem? (i := 127) (by decide +kernel)) rfl
set_option maxRecDepth 100000 in
theorem q_128 : (.fieldLink RX5 217 "KeptPlans$State" "hits" "I") ∈ GW := gw_t (List.mem_of_getElem? (i := 128) (by decide +kernel)) rfl
set_option maxRecDepth 100000 in
theorem q_129 : (.fieldLink RX3 43 "KeptPlans$State" "misses" "I") ∈ GW := gw_t (List.mem_of_getElem? (i := 129) (by decide +kernel)) rfl
set_option maxRecDepth 100000 in
theorem q_130 : (.fieldLink RX5 220 "KeptPlans$State" "misses" "I") ∈ GW := gw_t (List.mem_of_getElem? (i := 130) (by decide +kernel)) rfl
set_option maxRecDepth 100000 in
theorem q_131 : (.fieldLink RX3 46 "KeptPlans$State" "spent" "I") ∈ GW := gw_t (List.mem_of_getElem? (i := 131) (by decide +kernel)) rfl
set_option maxRecDepth 100000 in
theorem q_132 : (.fieldLink RX5 223 "KeptPlans$State" "spent" "I") ∈ GW := gw_t (List.mem_of_getElem? (i := 132) (by decide +kernel)) rfl
set_option maxRecDepth 100000 in
theorem q_133 : (.fieldLink RX3 49 "KeptPlans$State" "spentLooking" "I") ∈ GW := gw_t (List.mem_of_getElem? (i := 133) (by decide +kernel)) rfl
set_option maxRecDepth 100000 in
theorem q_134 : (.fieldLink RX5 224 "KeptPlans$State" "spentLooking" "I") ∈ GW := gw_t (List.mem_of_getElem? (i := 134) (by decide +kernel)) rfl
set_option maxRecDepth 100000 in
theorem q_135 : (.fieldLink RX3 52 "KeptPlans$State" "turnedBad" "I") ∈ GW := gw_t (List.mem_of_getElem? (i := 135) (by decide +kernel)) rfl
set_option maxRecDepth 100000 in
theorem q_136 : (.fieldLink RX5 227 "KeptPlans$State" "turnedBad" "I") ∈ GW := gw_t (List.mem_of_getElem? (i := 136) (by decide +kernel)) rfl
set_option maxRecDepth 100000 in
theorem q_137 : (.fieldLink RX3 55 "KeptPlans$State" "crowdedOut" "I") ∈ GW := gw_t (List.mem_of_getElem? (i := 137) (by decide +kernel)) rfl
set_option maxRecDepth 100000 in
theorem q_138 : (.fieldLink RX5 230 "KeptPlans$State" "crowdedOut" "I") ∈ GW := gw_t (List.mem_of_getElem? (i := 138) (by decide +kernel)) rfl
set_option maxRecDepth 100000 in
theorem q_160 : (.classLink RX5 19 "KeptPlans$History") ∈ GW := gw_t (List.mem_of_getElem? (i := 160) (by decide +kernel)) rfl
set_option maxRecDepth 100000 in
theorem q_161 : (.instantiable RX0 3) ∈ GW := gw_t (List.mem_of_getElem? (i := 161) (by decide +kernel)) rfl
set_option maxRecDepth 100000 in
theorem q_162 : (.methodLink RX5 21 yX0_init) ∈ GW := gw_t (List.mem_of_getElem? (i := 162) (by decide +kernel)) rfl
set_option maxRecDepth 100000 in
theorem q_163 : (.instanceMethod yX0_init) ∈ GW := gw_t (List.mem_of_getElem? (i := 163) (by decide +kernel)) rfl
set_option maxRecDepth 100000 in
theorem q_164 : (.code yX0_init cX0_init 2 none) ∈ GW := gw_t (List.mem_of_getElem? (i := 164) (by decide +kernel)) rfl
set_option maxRecDepth 100000 in
theorem q_165 : (.methodLink RX0 3 objectInit) ∈ GW := gw_t (List.mem_of_getElem? (i := 165) (by decide +kernel)) rfl
set_option maxRecDepth 100000 in
theorem q_166 : (.classLink RX0 9 "KeptPlans$State") ∈ GW := gw_t (List.mem_of_getElem? (i := 166) (by decide +kernel)) rfl
set_option maxRecDepth 100000 in
theorem q_168 : (.methodLink RX0 17 yX3_init) ∈ GW := gw_t (List.mem_of_getElem? (i := 168) (by decide +kernel)) rfl
set_option maxRecDepth 100000 in
theorem q_169 : (.fieldLink RX0 11 "KeptPlans$History" "states" "[LKeptPlans$State;") ∈ GW := gw_t (List.mem_of_getElem? (i := 169) (by decide +kernel)) rfl
set_option maxRecDepth 100000 in
theorem q_170 : (.fieldLink RX0 18 "KeptPlans$History" "next" "I") ∈ GW := gw_t (List.mem_of_getElem? (i := 170) (by decide +kernel)) rfl
set_option maxRecDepth 100000 in
theorem q_171 : (.fieldLink RX0 26 "KeptPlans$History" "size" "I") ∈ GW := gw_t (List.mem_of_getElem? (i := 171) (by decide +kernel)) rfl
set_option maxRecDepth 100000 in
theorem q_172 : (.fieldLink RX5 144 "KeptPlans$History" "size" "I") ∈ GW := gw_t (List.mem_of_getElem? (i := 172) (by decide +kernel)) rfl
set_option maxRecDepth 100000 in
theorem q_180 : (.classLink RX5 26 "KeptPlans$QuestionText") ∈ GW := gw_t (List.mem_of_getElem? (i := 180) (by decide +kernel)) rfl
set_option maxRecDepth 100000 in
theorem q_181 : (.instantiable RX2 7) ∈ GW := gw_t (List.mem_of_getElem? (i := 181) (by decide +kernel)) rfl
set_option maxRecDepth 100000 in
theorem q_183 : (.instanceMethod yX2_init) ∈ GW := gw_t (List.mem_of_getElem? (i := 183) (by decide +kernel)) rfl
set_option maxRecDepth 100000 in
theorem q_184 : (.code yX2_init cX2_init 1 none) ∈ GW := gw_t (List.mem_of_getElem? (i := 184) (by decide +kernel)) rfl
set_option maxRecDepth 100000 in
theorem q_185 : (.methodLink RX2 3 objectInit) ∈ GW := gw_t (List.mem_of_getElem? (i := 185) (by decide +kernel)) rfl
set_option maxRecDepth 100000 in
theorem q_186 : (.fieldLink RX2 9 "KeptPlans$QuestionText" "signs" "[C") ∈ GW := gw_t (List.mem_of_getElem? (i := 186) (by decide +kernel)) rfl
set_option maxRecDepth 100000 in
theorem q_187 : (.fieldLink RX5 140 "KeptPlans$QuestionText" "signs" "[C") ∈ GW := gw_t (List.mem_of_getElem? (i := 187) (by decide +kernel)) rfl
set_option maxRecDepth 100000 in
theorem q_188 : (.fieldLink RX2 36 "KeptPlans$QuestionText" "length" "I") ∈ GW := gw_t (List.mem_of_getElem? (i := 188) (by decide +kernel)) rfl
set_option maxRecDepth 100000 in
theorem q_189 : (.fieldLink RX5 137 "KeptPlans$QuestionText" "length" "I") ∈ GW := gw_t (List.mem_of_getElem? (i := 189) (by decide +kernel)) rfl
set_option maxRecDepth 100000 in
theorem q_190 : (.fieldLink RX2 15 "KeptPlans$QuestionText" "words" "[I") ∈ GW := gw_t (List.mem_of_getElem? (i := 190) (by decide +kernel)) rfl
set_option maxRecDepth 100000 in
theorem q_191 : (.fieldLink RX5 80 "KeptPlans$QuestionText" "words" "[I") ∈ GW := gw_t (List.mem_of_getElem? (i := 191) (by decide +kernel)) rfl
set_option maxRecDepth 100000 in
theorem q_192 : (.fieldLink RX2 19 "KeptPlans$QuestionText" "tables" "[I") ∈ GW := gw_t (List.mem_of_getElem? (i := 192) (by decide +kernel)) rfl
set_option maxRecDepth 100000 in
theorem q_193 : (.fieldLink RX5 84 "KeptPlans$QuestionText" "tables" "[I") ∈ GW := gw_t (List.mem_of_getElem? (i := 193) (by decide +kernel)) rfl
set_option maxRecDepth 100000 in
theorem q_194 : (.fieldLink RX2 22 "KeptPlans$QuestionText" "numbers" "[I") ∈ GW := gw_t (List.mem_of_getElem? (i := 194) (by decide +kernel)) rfl
set_option maxRecDepth 100000 in
theorem q_195 : (.fieldLink RX5 86 "KeptPlans$QuestionText" "numbers" "[I") ∈ GW := gw_t (List.mem_of_getElem? (i := 195) (by decide +kernel)) rfl
set_option maxRecDepth 100000 in
theorem q_196 : (.fieldLink RX2 29 "KeptPlans$QuestionText" "lines" "I") ∈ GW := gw_t (List.mem_of_getElem? (i := 196) (by decide +kernel)) rfl
set_option maxRecDepth 100000 in
theorem q_197 : (.fieldLink RX5 77 "KeptPlans$QuestionText" "lines" "I") ∈ GW := gw_t (List.mem_of_getElem? (i := 197) (by decide +kernel)) rfl
set_option maxRecDepth 100000 in
theorem q_198 : (.fieldLink RX2 25 "KeptPlans$QuestionText" "at" "I") ∈ GW := gw_t (List.mem_of_getElem? (i := 198) (by decide +kernel)) rfl
set_option maxRecDepth 100000 in
theorem q_214 : (.arrayClass .char) ∈ GW := gw_t (List.mem_of_getElem? (i := 214) (by decide +kernel)) rfl
set_option maxRecDepth 100000 in
theorem q_215 : (.fieldLink RX5 10 "KeptPlans" "now" "LKeptPlans$State;") ∈ GW := gw_t (List.mem_of_getElem? (i := 215) (by decide +kernel)) rfl
set_option maxRecDepth 100000 in
theorem q_216 : (.fieldLink RX5 16 "KeptPlans" "snapshot" "LKeptPlans$State;") ∈ GW := gw_t (List.mem_of_getElem? (i := 216) (by decide +kernel)) rfl
set_option maxRecDepth 100000 in
theorem q_217 : (.fieldLink RX5 22 "KeptPlans" "history" "LKeptPlans$History;") ∈ GW := gw_t (List.mem_of_getElem? (i := 217) (by decide +kernel)) rfl
set_option maxRecDepth 100000 in
theorem q_218 : (.fieldLink RX5 29 "KeptPlans" "text" "LKeptPlans$QuestionText;") ∈ GW := gw_t (List.mem_of_getElem? (i := 218) (by decide +kernel)) rfl
set_option maxRecDepth 100000 in
theorem q_219 : (.fieldLink RX5 33 "KeptPlans" "hasSnapshot" "Z") ∈ GW := gw_t (List.mem_of_getElem? (i := 219) (by decide +kernel)) rfl
set_option maxRecDepth 100000 in
theorem q_231 : (.methodLink RL 13 yX5_table) ∈ GW := gw_t (List.mem_of_getElem? (i := 231) (by decide +kernel)) rfl
set_option maxRecDepth 100000 in
theorem q_232 : (.instanceMethod yX5_table) ∈ GW := gw_t (List.mem_of_getElem? (i := 232) (by decide +kernel)) rfl
set_option maxRecDepth 100000 in
theorem q_233 : (.selects RX5 yX5_table yX5_table) ∈ GW := gw_t (List.mem_of_getElem? (i := 233) (by decide +kernel)) rfl
set_option maxRecDepth 100000 in
theorem q_234 : (.code yX5_table cX5_table 5 (some .int)) ∈ GW := gw_t (List.mem_of_getElem? (i := 234) (by decide +kernel)) rfl
set_option maxRecDepth 100000 in
theorem q_235 : (.methodLink RX5 37 yX5_isTable) ∈ GW := gw_t (List.mem_of_getElem? (i := 235) (by decide +kernel)) rfl
set_option maxRecDepth 100000 in
theorem q_236 : (.static yX5_isTable) ∈ GW := gw_t (List.mem_of_getElem? (i := 236) (by decide +kernel)) rfl
set_option maxRecDepth 100000 in
theorem q_237 : (.code yX5_isTable cX5_isTable 1 (some .boolean)) ∈ GW := gw_t (List.mem_of_getElem? (i := 237) (by decide +kernel)) rfl
set_option maxRecDepth 100000 in
theorem q_238 : (.methodLink RX5 54 yX0_record) ∈ GW := gw_t (List.mem_of_getElem? (i := 238) (by decide +kernel)) rfl
set_option maxRecDepth 100000 in
theorem q_239 : (.instanceMethod yX0_record) ∈ GW := gw_t (List.mem_of_getElem? (i := 239) (by decide +kernel)) rfl
set_option maxRecDepth 100000 in
theorem q_240 : (.selects RX0 yX0_record yX0_record) ∈ GW := gw_t (List.mem_of_getElem? (i := 240) (by decide +kernel)) rfl
set_option maxRecDepth 100000 in
theorem q_241 : (.code yX0_record cX0_record 2 none) ∈ GW := gw_t (List.mem_of_getElem? (i := 241) (by decide +kernel)) rfl
set_option maxRecDepth 100000 in
theorem q_242 : (.methodLink RX0 22 yX3_copyFrom) ∈ GW := gw_t (List.mem_of_getElem? (i := 242) (by decide +kernel)) rfl
set_option maxRecDepth 100000 in
theorem q_243 : (.instanceMethod yX3_copyFrom) ∈ GW := gw_t (List.mem_of_getElem? (i := 243) (by decide +kernel)) rfl
set_option maxRecDepth 100000 in
theorem q_244 : (.selects RX3 yX3_copyFrom yX3_copyFrom) ∈ GW := gw_t (List.mem_of_getElem? (i := 244) (by decide +kernel)) rfl
set_option maxRecDepth 100000 in
theorem q_245 : (.code yX3_copyFrom cX3_copyFrom 3 none) ∈ GW := gw_t (List.mem_of_getElem? (i := 245) (by decide +kernel)) rfl
set_option maxRecDepth 100000 in
theorem q_246 : (.methodLink RX3 29 yX4_copyFrom) ∈ GW := gw_t (List.mem_of_getElem? (i := 246) (by decide +kernel)) rfl
set_option maxRecDepth 100000 in
theorem q_247 : (.instanceMethod yX4_copyFrom) ∈ GW := gw_t (List.mem_of_getElem? (i := 247) (by decide +kernel)) rfl
set_option maxRecDepth 100000 in
theorem q_248 : (.selects RX4 yX4_copyFrom yX4_copyFrom) ∈ GW := gw_t (List.mem_of_getElem? (i := 248) (by decide +kernel)) rfl
set_option maxRecDepth 100000 in
theorem q_249 : (.code yX4_copyFrom cX4_copyFrom 2 none) ∈ GW := gw_t (List.mem_of_getElem? (i := 249) (by decide +kernel)) rfl
set_option maxRecDepth 100000 in
theorem q_250 : (.methodLink RX3 33 yX1_copyFrom) ∈ GW := gw_t (List.mem_of_getElem? (i := 250) (by decide +kernel)) rfl
set_option maxRecDepth 100000 in
theorem q_251 : (.instanceMethod yX1_copyFrom) ∈ GW := gw_t (List.mem_of_getElem? (i := 251) (by decide +kernel)) rfl
set_option maxRecDepth 100000 in
theorem q_252 : (.selects RX1 yX1_copyFrom yX1_copyFrom) ∈ GW := gw_t (List.mem_of_getElem? (i := 252) (by decide +kernel)) rfl
set_option maxRecDepth 100000 in
theorem q_253 : (.code yX1_copyFrom cX1_copyFrom 2 none) ∈ GW := gw_t (List.mem_of_getElem? (i := 253) (by decide +kernel)) rfl
set_option maxRecDepth 100000 in
theorem q_254 : (.methodLink RX0 29 yJ9_min_7cf53) ∈ GW := gw_t (List.mem_of_getElem? (i := 254) (by decide +kernel)) rfl
set_option maxRecDepth 100000 in
theorem q_255 : (.static yJ9_min_7cf53) ∈ GW := gw_t (List.mem_of_getElem? (i := 255) (by decide +kernel)) rfl
set_option maxRecDepth 100000 in
theorem q_256 : (.code yJ9_min_7cf53 cJ9_min_7cf53 2 (some .int)) ∈ GW := gw_t (List.mem_of_getElem? (i := 256) (by decide +kernel)) rfl
set_option maxRecDepth 100000 in
theorem q_257 : (.methodLink RX5 58 yX3_resize) ∈ GW := gw_t (List.mem_of_getElem? (i := 257) (by decide +kernel)) rfl
set_option maxRecDepth 100000 in
theorem q_258 : (.instanceMethod yX3_resize) ∈ GW := gw_t (List.mem_of_getElem? (i := 258) (by decide +kernel)) rfl
set_option maxRecDepth 100000 in
theorem q_259 : (.selects RX3 yX3_resize yX3_resize) ∈ GW := gw_t (List.mem_of_getElem? (i := 259) (by decide +kernel)) rfl
set_option maxRecDepth 100000 in
theorem q_260 : (.code yX3_resize cX3_resize 4 none) ∈ GW := gw_t (List.mem_of_getElem? (i := 260) (by decide +kernel)) rfl
set_option maxRecDepth 100000 in
theorem q_261 : (.methodLink RL 18 yX5_ask) ∈ GW := gw_t (List.mem_of_getElem? (i := 261) (by decide +kernel)) rfl
set_option maxRecDepth 100000 in
theorem q_262 : (.instanceMethod yX5_ask) ∈ GW := gw_t (List.mem_of_getElem? (i := 262) (by decide +kernel)) rfl
set_option maxRecDepth 100000 in
theorem q_263 : (.selects RX5 yX5_ask yX5_ask) ∈ GW := gw_t (List.mem_of_getElem? (i := 263) (by decide +kernel)) rfl
set_option maxRecDepth 100000 in
theorem q_264 : (.code yX5_ask cX5_ask 3 (some .int)) ∈ GW := gw_t (List.mem_of_getElem? (i := 264) (by decide +kernel)) rfl
set_option maxRecDepth 100000 in
theorem q_265 : (.methodLink RX5 62 yX5_isShape) ∈ GW := gw_t (List.mem_of_getElem? (i := 265) (by decide +kernel)) rfl
set_option maxRecDepth 100000 in
theorem q_266 : (.static yX5_isShape) ∈ GW := gw_t (List.mem_of_getElem? (i := 266) (by decide +kernel)) rfl
set_option maxRecDepth 100000 in
theorem q_267 : (.code yX5_isShape cX5_isShape 1 (some .boolean)) ∈ GW := gw_t (List.mem_of_getElem? (i := 267) (by decide +kernel)) rfl
set_option maxRecDepth 100000 in
theorem q_268 : (.methodLink RX5 65 yX5_isNumberOf) ∈ GW := gw_t (List.mem_of_getElem? (i := 268) (by decide +kernel)) rfl
set_option maxRecDepth 100000 in
theorem q_269 : (.static yX5_isNumberOf) ∈ GW := gw_t (List.mem_of_getElem? (i := 269) (by decide +kernel)) rfl
set_option maxRecDepth 100000 in
theorem q_270 : (.code yX5_isNumberOf cX5_isNumberOf 2 (some .boolean)) ∈ GW := gw_t (List.mem_of_getElem? (i := 270) (by decide +kernel)) rfl
set_option maxRecDepth 100000 in
theorem q_271 : (.methodLink RX5 201 yX5_leastNumberOf) ∈ GW := gw_t (List.mem_of_getElem? (i := 271) (by decide +kernel)) rfl
set_option maxRecDepth 100000 in
theorem q_272 : (.static yX5_leastNumberOf) ∈ GW := gw_t (List.mem_of_getElem? (i := 272) (by decide +kernel)) rfl
set_option maxRecDepth 100000 in
theorem q_273 : (.code yX5_leastNumberOf cX5_leastNumberOf 1 (some .int)) ∈ GW := gw_t (List.mem_of_getElem? (i := 273) (by decide +kernel)) rfl
set_option maxRecDepth 100000 in
theorem q_274 : (.methodLink RX5 69 yX3_answer) ∈ GW := gw_t (List.mem_of_getElem? (i := 274) (by decide +kernel)) rfl
set_option maxRecDepth 100000 in
theorem q_275 : (.instanceMethod yX3_answer) ∈ GW := gw_t (List.mem_of_getElem? (i := 275) (by decide +kernel)) rfl
set_option maxRecDepth 100000 in
theorem q_276 : (.selects RX3 yX3_answer yX3_answer) ∈ GW := gw_t (List.mem_of_getElem? (i := 276) (by decide +kernel)) rfl
set_option maxRecDepth 100000 in
theorem q_277 : (.code yX3_answer cX3_answer 6 (some .int)) ∈ GW := gw_t (List.mem_of_getElem? (i := 277) (by decide +kernel)) rfl
set_option maxRecDepth 100000 in
theorem q_278 : (.methodLink RX3 116 yX3_whyNotUsed) ∈ GW := gw_t (List.mem_of_getElem? (i := 278) (by decide +kernel)) rfl
set_option maxRecDepth 100000 in
theorem q_279 : (.instanceMethod yX3_whyNotUsed) ∈ GW := gw_t (List.mem_of_getElem? (i := 279) (by decide +kernel)) rfl
set_option maxRecDepth 100000 in
theorem q_280 : (.selects RX3 yX3_whyNotUsed yX3_whyNotUsed) ∈ GW := gw_t (List.mem_of_getElem? (i := 280) (by decide +kernel)) rfl
set_option maxRecDepth 100000 in
theorem q_281 : (.code yX3_whyNotUsed cX3_whyNotUsed 4 (some .int)) ∈ GW := gw_t (List.mem_of_getElem? (i := 281) (by decide +kernel)) rfl
set_option maxRecDepth 100000 in
theorem q_282 : (.methodLink RX3 96 yX3_rowsChangedTooMuch) ∈ GW := gw_t (List.mem_of_getElem? (i := 282) (by decide +kernel)) rfl
set_option maxRecDepth 100000 in
theorem q_283 : (.instanceMethod yX3_rowsChangedTooMuch) ∈ GW := gw_t (List.mem_of_getElem? (i := 283) (by decide +kernel)) rfl
set_option maxRecDepth 100000 in
theorem q_284 : (.selects RX3 yX3_rowsChangedTooMuch yX3_rowsChangedTooMuch) ∈ GW := gw_t (List.mem_of_getElem? (i := 284) (by decide +kernel)) rfl
set_option maxRecDepth 100000 in
theorem q_285 : (.code yX3_rowsChangedTooMuch cX3_rowsChangedTooMuch 3 (some .boolean)) ∈ GW := gw_t (List.mem_of_getElem? (i := 285) (by decide +kernel)) rfl
set_option maxRecDepth 100000 in
theorem q_286 : (.methodLink RX3 64 yX3_tableUnder) ∈ GW := gw_t (List.mem_of_getElem? (i := 286) (by decide +kernel)) rfl
set_option maxRecDepth 100000 in
theorem q_287 : (.instanceMethod yX3_tableUnder) ∈ GW := gw_t (List.mem_of_getElem? (i := 287) (by decide +kernel)) rfl
set_option maxRecDepth 100000 in
theorem q_288 : (.selects RX3 yX3_tableUnder yX3_tableUnder) ∈ GW := gw_t (List.mem_of_getElem? (i := 288) (by decide +kernel)) rfl
set_option maxRecDepth 100000 in
theorem q_289 : (.code yX3_tableUnder cX3_tableUnder 2 (some (.object "KeptPlans$Table"))) ∈ GW := gw_t (List.mem_of_getElem? (i := 289) (by decide +kernel)) rfl
set_option maxRecDepth 100000 in
theorem q_290 : (.methodLink RX3 90 yJ9_abs_0f7a4) ∈ GW := gw_t (List.mem_of_getElem? (i := 290) (by decide +kernel)) rfl
set_option maxRecDepth 100000 in
theorem q_291 : (.static yJ9_abs_0f7a4) ∈ GW := gw_t (List.mem_of_getElem? (i := 291) (by decide +kernel)) rfl
set_option maxRecDepth 100000 in
theorem q_292 : (.code yJ9_abs_0f7a4 cJ9_abs_0f7a4 1 (some .int)) ∈ GW := gw_t (List.mem_of_getElem? (i := 292) (by decide +kernel)) rfl
set_option maxRecDepth 100000 in
theorem q_293 : (.methodLink RX3 100 yX3_isTooOld) ∈ GW := gw_t (List.mem_of_getElem? (i := 293) (by decide +kernel)) rfl
set_option maxRecDepth 100000 in
theorem q_294 : (.instanceMethod yX3_isTooOld) ∈ GW := gw_t (List.mem_of_getElem? (i := 294) (by decide +kernel)) rfl
set_option maxRecDepth 100000 in
theorem q_295 : (.selects RX3 yX3_isTooOld yX3_isTooOld) ∈ GW := gw_t (List.mem_of_getElem? (i := 295) (by decide +kernel)) rfl
set_option maxRecDepth 100000 in
theorem q_296 : (.code yX3_isTooOld cX3_isTooOld 2 (some .boolean)) ∈ GW := gw_t (List.mem_of_getElem? (i := 296) (by decide +kernel)) rfl
set_option maxRecDepth 100000 in
theorem q_297 : (.methodLink RX3 119 yX3_answerByPlan) ∈ GW := gw_t (List.mem_of_getElem? (i := 297) (by decide +kernel)) rfl
set_option maxRecDepth 100000 in
theorem q_298 : (.instanceMethod yX3_answerByPlan) ∈ GW := gw_t (List.mem_of_getElem? (i := 298) (by decide +kernel)) rfl
set_option maxRecDepth 100000 in
theorem q_299 : (.selects RX3 yX3_answerByPlan yX3_answerByPlan) ∈ GW := gw_t (List.mem_of_getElem? (i := 299) (by decide +kernel)) rfl
set_option maxRecDepth 100000 in
theorem q_300 : (.code yX3_answerByPlan cX3_answerByPlan 5 (some .int)) ∈ GW := gw_t (List.mem_of_getElem? (i := 300) (by decide +kernel)) rfl
set_option maxRecDepth 100000 in
theorem q_301 : (.methodLink RX3 85 yX3_priceBy) ∈ GW := gw_t (List.mem_of_getElem? (i := 301) (by decide +kernel)) rfl
set_option maxRecDepth 100000 in
theorem q_302 : (.instanceMethod yX3_priceBy) ∈ GW := gw_t (List.mem_of_getElem? (i := 302) (by decide +kernel)) rfl
set_option maxRecDepth 100000 in
theorem q_303 : (.selects RX3 yX3_priceBy yX3_priceBy) ∈ GW := gw_t (List.mem_of_getElem? (i := 303) (by decide +kernel)) rfl
set_option maxRecDepth 100000 in
theorem q_304 : (.code yX3_priceBy cX3_priceBy 7 (some .int)) ∈ GW := gw_t (List.mem_of_getElem? (i := 304) (by decide +kernel)) rfl
set_option maxRecDepth 100000 in
theorem q_306 : (.static yX5_bitsOf) ∈ GW := gw_t (List.mem_of_getElem? (i := 306) (by decide +kernel)) rfl
set_option maxRecDepth 100000 in
theorem q_307 : (.code yX5_bitsOf cX5_bitsOf 2 (some .int)) ∈ GW := gw_t (List.mem_of_getElem? (i := 307) (by decide +kernel)) rfl
set_option maxRecDepth 100000 in
theorem q_308 : (.methodLink RX3 72 yX3_rowsMet) ∈ GW := gw_t (List.mem_of_getElem? (i := 308) (by decide +kernel)) rfl
set_option maxRecDepth 100000 in
theorem q_309 : (.instanceMethod yX3_rowsMet) ∈ GW := gw_t (List.mem_of_getElem? (i := 309) (by decide +kernel)) rfl
set_option maxRecDepth 100000 in
theorem q_310 : (.selects RX3 yX3_rowsMet yX3_rowsMet) ∈ GW := gw_t (List.mem_of_getElem? (i := 310) (by decide +kernel)) rfl
set_option maxRecDepth 100000 in
theorem q_311 : (.code yX3_rowsMet cX3_rowsMet 5 (some .int)) ∈ GW := gw_t (List.mem_of_getElem? (i := 311) (by decide +kernel)) rfl
set_option maxRecDepth 100000 in
theorem q_313 : (.static yX5_quotient) ∈ GW := gw_t (List.mem_of_getElem? (i := 313) (by decide +kernel)) rfl
set_option maxRecDepth 100000 in
theorem q_314 : (.code yX5_quotient cX5_quotient 2 (some .int)) ∈ GW := gw_t (List.mem_of_getElem? (i := 314) (by decide +kernel)) rfl
set_option maxRecDepth 100000 in
theorem q_315 : (.methodLink RX3 77 yJ9_min_7cf53) ∈ GW := gw_t (List.mem_of_getElem? (i := 315) (by decide +kernel)) rfl
set_option maxRecDepth 100000 in
theorem q_316 : (.constant RX3 76 (1000000 : Int32)) ∈ GW := gw_t (List.mem_of_getElem? (i := 316) (by decide +kernel)) rfl
set_option maxRecDepth 100000 in
theorem q_317 : (.methodLink RX3 136 yX3_isTooDear) ∈ GW := gw_t (List.mem_of_getElem? (i := 317) (by decide +kernel)) rfl
set_option maxRecDepth 100000 in
theorem q_318 : (.instanceMethod yX3_isTooDear) ∈ GW := gw_t (List.mem_of_getElem? (i := 318) (by decide +kernel)) rfl
set_option maxRecDepth 100000 in
theorem q_319 : (.selects RX3 yX3_isTooDear yX3_isTooDear) ∈ GW := gw_t (List.mem_of_getElem? (i := 319) (by decide +kernel)) rfl
set_option maxRecDepth 100000 in
theorem q_320 : (.code yX3_isTooDear cX3_isTooDear 3 (some .boolean)) ∈ GW := gw_t (List.mem_of_getElem? (i := 320) (by decide +kernel)) rfl
set_option maxRecDepth 100000 in
theorem q_321 : (.methodLink RX3 122 yX3_answerByLooking) ∈ GW := gw_t (List.mem_of_getElem? (i := 321) (by decide +kernel)) rfl
set_option maxRecDepth 100000 in
theorem q_322 : (.instanceMethod yX3_answerByLooking) ∈ GW := gw_t (List.mem_of_getElem? (i := 322) (by decide +kernel)) rfl
set_option maxRecDepth 100000 in
theorem q_323 : (.selects RX3 yX3_answerByLooking yX3_answerByLooking) ∈ GW := gw_t (List.mem_of_getElem? (i := 323) (by decide +kernel)) rfl
set_option maxRecDepth 100000 in
theorem q_324 : (.code yX3_answerByLooking cX3_answerByLooking 5 (some .int)) ∈ GW := gw_t (List.mem_of_getElem? (i := 324) (by decide +kernel)) rfl
set_option maxRecDepth 100000 in
theorem q_325 : (.methodLink RX3 140 yX3_cheapestWay) ∈ GW := gw_t (List.mem_of_getElem? (i := 325) (by decide +kernel)) rfl
set_option maxRecDepth 100000 in
theorem q_326 : (.instanceMethod yX3_cheapestWay) ∈ GW := gw_t (List.mem_of_getElem? (i := 326) (by decide +kernel)) rfl
set_option maxRecDepth 100000 in
theorem q_327 : (.selects RX3 yX3_cheapestWay yX3_cheapestWay) ∈ GW := gw_t (List.mem_of_getElem? (i := 327) (by decide +kernel)) rfl
set_option maxRecDepth 100000 in
theorem q_328 : (.code yX3_cheapestWay cX3_cheapestWay 7 (some .int)) ∈ GW := gw_t (List.mem_of_getElem? (i := 328) (by decide +kernel)) rfl
set_option maxRecDepth 100000 in
theorem q_329 : (.methodLink RX3 143 yX3_makeRoomFor) ∈ GW := gw_t (List.mem_of_getElem? (i := 329) (by decide +kernel)) rfl
set_option maxRecDepth 100000 in
theorem q_330 : (.instanceMethod yX3_makeRoomFor) ∈ GW := gw_t (List.mem_of_getElem? (i := 330) (by decide +kernel)) rfl
set_option maxRecDepth 100000 in
theorem q_331 : (.selects RX3 yX3_makeRoomFor yX3_makeRoomFor) ∈ GW := gw_t (List.mem_of_getElem? (i := 331) (by decide +kernel)) rfl
set_option maxRecDepth 100000 in
theorem q_332 : (.code yX3_makeRoomFor cX3_makeRoomFor 2 none) ∈ GW := gw_t (List.mem_of_getElem? (i := 332) (by decide +kernel)) rfl
set_option maxRecDepth 100000 in
theorem q_333 : (.methodLink RX3 167 yX3_lacksRoomFor) ∈ GW := gw_t (List.mem_of_getElem? (i := 333) (by decide +kernel)) rfl
set_option maxRecDepth 100000 in
theorem q_334 : (.instanceMethod yX3_lacksRoomFor) ∈ GW := gw_t (List.mem_of_getElem? (i := 334) (by decide +kernel)) rfl
set_option maxRecDepth 100000 in
theorem q_335 : (.selects RX3 yX3_lacksRoomFor yX3_lacksRoomFor) ∈ GW := gw_t (List.mem_of_getElem? (i := 335) (by decide +kernel)) rfl
set_option maxRecDepth 100000 in
theorem q_336 : (.code yX3_lacksRoomFor cX3_lacksRoomFor 2 (some .boolean)) ∈ GW := gw_t (List.mem_of_getElem? (i := 336) (by decide +kernel)) rfl
set_option maxRecDepth 100000 in
theorem q_337 : (.methodLink RX3 164 yX3_keptPlans) ∈ GW := gw_t (List.mem_of_getElem? (i := 337) (by decide +kernel)) rfl
set_option maxRecDepth 100000 in
theorem q_338 : (.instanceMethod yX3_keptPlans) ∈ GW := gw_t (List.mem_of_getElem? (i := 338) (by decide +kernel)) rfl
set_option maxRecDepth 100000 in
theorem q_339 : (.selects RX3 yX3_keptPlans yX3_keptPlans) ∈ GW := gw_t (List.mem_of_getElem? (i := 339) (by decide +kernel)) rfl
set_option maxRecDepth 100000 in
theorem q_340 : (.code yX3_keptPlans cX3_keptPlans 3 (some .int)) ∈ GW := gw_t (List.mem_of_getElem? (i := 340) (by decide +kernel)) rfl
set_option maxRecDepth 100000 in
theorem q_341 : (.methodLink RX3 173 yX3_crowdOutDownTo) ∈ GW := gw_t (List.mem_of_getElem? (i := 341) (by decide +kernel)) rfl
set_option maxRecDepth 100000 in
theorem q_342 : (.instanceMethod yX3_crowdOutDownTo) ∈ GW := gw_t (List.mem_of_getElem? (i := 342) (by decide +kernel)) rfl
set_option maxRecDepth 100000 in
theorem q_343 : (.selects RX3 yX3_crowdOutDownTo yX3_crowdOutDownTo) ∈ GW := gw_t (List.mem_of_getElem? (i := 343) (by decide +kernel)) rfl
set_option maxRecDepth 100000 in
theorem q_344 : (.code yX3_crowdOutDownTo cX3_crowdOutDownTo 5 none) ∈ GW := gw_t (List.mem_of_getElem? (i := 344) (by decide +kernel)) rfl
set_option maxRecDepth 100000 in
theorem q_345 : (.methodLink RX3 170 yX3_oldestUnpinned) ∈ GW := gw_t (List.mem_of_getElem? (i := 345) (by decide +kernel)) rfl
set_option maxRecDepth 100000 in
theorem q_346 : (.instanceMethod yX3_oldestUnpinned) ∈ GW := gw_t (List.mem_of_getElem? (i := 346) (by decide +kernel)) rfl
set_option maxRecDepth 100000 in
theorem q_347 : (.selects RX3 yX3_oldestUnpinned yX3_oldestUnpinned) ∈ GW := gw_t (List.mem_of_getElem? (i := 347) (by decide +kernel)) rfl
set_option maxRecDepth 100000 in
theorem q_348 : (.code yX3_oldestUnpinned cX3_oldestUnpinned 6 (some .int)) ∈ GW := gw_t (List.mem_of_getElem? (i := 348) (by decide +kernel)) rfl
set_option maxRecDepth 100000 in
theorem q_349 : (.methodLink RX3 147 yX3_couldKeep) ∈ GW := gw_t (List.mem_of_getElem? (i := 349) (by decide +kernel)) rfl
set_option maxRecDepth 100000 in
theorem q_350 : (.instanceMethod yX3_couldKeep) ∈ GW := gw_t (List.mem_of_getElem? (i := 350) (by decide +kernel)) rfl
set_option maxRecDepth 100000 in
theorem q_351 : (.selects RX3 yX3_couldKeep yX3_couldKeep) ∈ GW := gw_t (List.mem_of_getElem? (i := 351) (by decide +kernel)) rfl
set_option maxRecDepth 100000 in
theorem q_352 : (.code yX3_couldKeep cX3_couldKeep 2 (some .boolean)) ∈ GW := gw_t (List.mem_of_getElem? (i := 352) (by decide +kernel)) rfl
set_option maxRecDepth 100000 in
theorem q_353 : (.methodLink RX3 160 yX3_pinnedPlans) ∈ GW := gw_t (List.mem_of_getElem? (i := 353) (by decide +kernel)) rfl
set_option maxRecDepth 100000 in
theorem q_354 : (.instanceMethod yX3_pinnedPlans) ∈ GW := gw_t (List.mem_of_getElem? (i := 354) (by decide +kernel)) rfl
set_option maxRecDepth 100000 in
theorem q_355 : (.selects RX3 yX3_pinnedPlans yX3_pinnedPlans) ∈ GW := gw_t (List.mem_of_getElem? (i := 355) (by decide +kernel)) rfl
set_option maxRecDepth 100000 in
theorem q_356 : (.code yX3_pinnedPlans cX3_pinnedPlans 3 (some .int)) ∈ GW := gw_t (List.mem_of_getElem? (i := 356) (by decide +kernel)) rfl
set_option maxRecDepth 100000 in
theorem q_357 : (.methodLink RX3 150 yX3_place) ∈ GW := gw_t (List.mem_of_getElem? (i := 357) (by decide +kernel)) rfl
set_option maxRecDepth 100000 in
theorem q_358 : (.instanceMethod yX3_place) ∈ GW := gw_t (List.mem_of_getElem? (i := 358) (by decide +kernel)) rfl
set_option maxRecDepth 100000 in
theorem q_359 : (.selects RX3 yX3_place yX3_place) ∈ GW := gw_t (List.mem_of_getElem? (i := 359) (by decide +kernel)) rfl
set_option maxRecDepth 100000 in
theorem q_360 : (.code yX3_place cX3_place 7 none) ∈ GW := gw_t (List.mem_of_getElem? (i := 360) (by decide +kernel)) rfl
set_option maxRecDepth 100000 in
theorem q_361 : (.methodLink RL 23 yX5_askAll) ∈ GW := gw_t (List.mem_of_getElem? (i := 361) (by decide +kernel)) rfl
set_option maxRecDepth 100000 in
theorem q_362 : (.instanceMethod yX5_askAll) ∈ GW := gw_t (List.mem_of_getElem? (i := 362) (by decide +kernel)) rfl
set_option maxRecDepth 100000 in
theorem q_363 : (.selects RX5 yX5_askAll yX5_askAll) ∈ GW := gw_t (List.mem_of_getElem? (i := 363) (by decide +kernel)) rfl
set_option maxRecDepth 100000 in
theorem q_364 : (.code yX5_askAll cX5_askAll 5 (some .int)) ∈ GW := gw_t (List.mem_of_getElem? (i := 364) (by decide +kernel)) rfl
set_option maxRecDepth 100000 in
theorem q_365 : (.methodLink RX5 73 yX2_read) ∈ GW := gw_t (List.mem_of_getElem? (i := 365) (by decide +kernel)) rfl
set_option maxRecDepth 100000 in
theorem q_366 : (.instanceMethod yX2_read) ∈ GW := gw_t (List.mem_of_getElem? (i := 366) (by decide +kernel)) rfl
set_option maxRecDepth 100000 in
theorem q_367 : (.selects RX2 yX2_read yX2_read) ∈ GW := gw_t (List.mem_of_getElem? (i := 367) (by decide +kernel)) rfl
set_option maxRecDepth 100000 in
theorem q_368 : (.code yX2_read cX2_read 1 (some .int)) ∈ GW := gw_t (List.mem_of_getElem? (i := 368) (by decide +kernel)) rfl
set_option maxRecDepth 100000 in
theorem q_369 : (.methodLink RX2 32 yX2_readLine) ∈ GW := gw_t (List.mem_of_getElem? (i := 369) (by decide +kernel)) rfl
set_option maxRecDepth 100000 in
theorem q_370 : (.instanceMethod yX2_readLine) ∈ GW := gw_t (List.mem_of_getElem? (i := 370) (by decide +kernel)) rfl
set_option maxRecDepth 100000 in
theorem q_371 : (.selects RX2 yX2_readLine yX2_readLine) ∈ GW := gw_t (List.mem_of_getElem? (i := 371) (by decide +kernel)) rfl
set_option maxRecDepth 100000 in
theorem q_372 : (.code yX2_readLine cX2_readLine 5 (some .boolean)) ∈ GW := gw_t (List.mem_of_getElem? (i := 372) (by decide +kernel)) rfl
set_option maxRecDepth 100000 in
theorem q_373 : (.methodLink RX2 45 yX2_readWord) ∈ GW := gw_t (List.mem_of_getElem? (i := 373) (by decide +kernel)) rfl
set_option maxRecDepth 100000 in
theorem q_374 : (.instanceMethod yX2_readWord) ∈ GW := gw_t (List.mem_of_getElem? (i := 374) (by decide +kernel)) rfl
set_option maxRecDepth 100000 in
theorem q_375 : (.selects RX2 yX2_readWord yX2_readWord) ∈ GW := gw_t (List.mem_of_getElem? (i := 375) (by decide +kernel)) rfl
set_option maxRecDepth 100000 in
theorem q_376 : (.code yX2_readWord cX2_readWord 1 (some .int)) ∈ GW := gw_t (List.mem_of_getElem? (i := 376) (by decide +kernel)) rfl
set_option maxRecDepth 100000 in
theorem q_377 : (.methodLink RX2 53 yX2_sign) ∈ GW := gw_t (List.mem_of_getElem? (i := 377) (by decide +kernel)) rfl
set_option maxRecDepth 100000 in
theorem q_378 : (.instanceMethod yX2_sign) ∈ GW := gw_t (List.mem_of_getElem? (i := 378) (by decide +kernel)) rfl
set_option maxRecDepth 100000 in
theorem q_379 : (.selects RX2 yX2_sign yX2_sign) ∈ GW := gw_t (List.mem_of_getElem? (i := 379) (by decide +kernel)) rfl
set_option maxRecDepth 100000 in
theorem q_380 : (.code yX2_sign cX2_sign 1 (some .int)) ∈ GW := gw_t (List.mem_of_getElem? (i := 380) (by decide +kernel)) rfl
set_option maxRecDepth 100000 in
theorem q_381 : (.methodLink RX2 56 yX2_readKeyOrKeys) ∈ GW := gw_t (List.mem_of_getElem? (i := 381) (by decide +kernel)) rfl
set_option maxRecDepth 100000 in
theorem q_382 : (.instanceMethod yX2_readKeyOrKeys) ∈ GW := gw_t (List.mem_of_getElem? (i := 382) (by decide +kernel)) rfl
set_option maxRecDepth 100000 in
theorem q_383 : (.selects RX2 yX2_readKeyOrKeys yX2_readKeyOrKeys) ∈ GW := gw_t (List.mem_of_getElem? (i := 383) (by decide +kernel)) rfl
set_option maxRecDepth 100000 in
theorem q_384 : (.code yX2_readKeyOrKeys cX2_readKeyOrKeys 1 (some .int)) ∈ GW := gw_t (List.mem_of_getElem? (i := 384) (by decide +kernel)) rfl
set_option maxRecDepth 100000 in
theorem q_386 : (.methodLink RX2 41 yX2_pass) ∈ GW := gw_t (List.mem_of_getElem? (i := 386) (by decide +kernel)) rfl
set_option maxRecDepth 100000 in
theorem q_387 : (.instanceMethod yX2_pass) ∈ GW := gw_t (List.mem_of_getElem? (i := 387) (by decide +kernel)) rfl
set_option maxRecDepth 100000 in
theorem q_388 : (.selects RX2 yX2_pass yX2_pass) ∈ GW := gw_t (List.mem_of_getElem? (i := 388) (by decide +kernel)) rfl
set_option maxRecDepth 100000 in
theorem q_389 : (.code yX2_pass cX2_pass 3 (some .boolean)) ∈ GW := gw_t (List.mem_of_getElem? (i := 389) (by decide +kernel)) rfl
set_option maxRecDepth 100000 in
theorem q_390 : (.methodLink RX2 74 yJ0_length_8abf5) ∈ GW := gw_t (List.mem_of_getElem? (i := 390) (by decide +kernel)) rfl
set_option maxRecDepth 100000 in
theorem q_391 : (.instanceMethod yJ0_length_8abf5) ∈ GW := gw_t (List.mem_of_getElem? (i := 391) (by decide +kernel)) rfl
set_option maxRecDepth 100000 in
theorem q_392 : (.selects RJ0 yJ0_length_8abf5 yJ0_length_8abf5) ∈ GW := gw_t (List.mem_of_getElem? (i := 392) (by decide +kernel)) rfl
set_option maxRecDepth 100000 in
theorem q_393 : (.code yJ0_length_8abf5 cJ0_length_8abf5 1 (some .int)) ∈ GW := gw_t (List.mem_of_getElem? (i := 393) (by decide +kernel)) rfl
set_option maxRecDepth 100000 in
theorem q_394 : (.methodLink RJ0 335 yJ0_coder_7d493) ∈ GW := gw_t (List.mem_of_getElem? (i := 394) (by decide +kernel)) rfl
set_option maxRecDepth 100000 in
theorem q_395 : (.instanceMethod yJ0_coder_7d493) ∈ GW := gw_t (List.mem_of_getElem? (i := 395) (by decide +kernel)) rfl
set_option maxRecDepth 100000 in
theorem q_396 : (.selects RJ0 yJ0_coder_7d493 yJ0_coder_7d493) ∈ GW := gw_t (List.mem_of_getElem? (i := 396) (by decide +kernel)) rfl
set_option maxRecDepth 100000 in
theorem q_397 : (.code yJ0_coder_7d493 cJ0_coder_7d493 1 (some .byte)) ∈ GW := gw_t (List.mem_of_getElem? (i := 397) (by decide +kernel)) rfl
set_option maxRecDepth 100000 in
theorem q_398 : (.fieldLink RJ0 38 "java/lang/String" "COMPACT_STRINGS" "Z") ∈ GW := gw_t (List.mem_of_getElem? (i := 398) (by decide +kernel)) rfl
set_option maxRecDepth 100000 in
theorem q_400 : (.methodLink RX2 78 yJ0_charAt_5068e) ∈ GW := gw_t (List.mem_of_getElem? (i := 400) (by decide +kernel)) rfl
set_option maxRecDepth 100000 in
theorem q_401 : (.instanceMethod yJ0_charAt_5068e) ∈ GW := gw_t (List.mem_of_getElem? (i := 401) (by decide +kernel)) rfl
set_option maxRecDepth 100000 in
theorem q_402 : (.selects RJ0 yJ0_charAt_5068e yJ0_charAt_5068e) ∈ GW := gw_t (List.mem_of_getElem? (i := 402) (by decide +kernel)) rfl
set_option maxRecDepth 100000 in
theorem q_403 : (.code yJ0_charAt_5068e cJ0_charAt_5068e 2 (some .char)) ∈ GW := gw_t (List.mem_of_getElem? (i := 403) (by decide +kernel)) rfl
set_option maxRecDepth 100000 in
theorem q_404 : (.methodLink RJ0 492 yJ0_isLatin1_aae02) ∈ GW := gw_t (List.mem_of_getElem? (i := 404) (by decide +kernel)) rfl
set_option maxRecDepth 100000 in
theorem q_405 : (.instanceMethod yJ0_isLatin1_aae02) ∈ GW := gw_t (List.mem_of_getElem? (i := 405) (by decide +kernel)) rfl
set_option maxRecDepth 100000 in
theorem q_406 : (.selects RJ0 yJ0_isLatin1_aae02 yJ0_isLatin1_aae02) ∈ GW := gw_t (List.mem_of_getElem? (i := 406) (by decide +kernel)) rfl
set_option maxRecDepth 100000 in
theorem q_407 : (.code yJ0_isLatin1_aae02 cJ0_isLatin1_aae02 1 (some .boolean)) ∈ GW := gw_t (List.mem_of_getElem? (i := 407) (by decide +kernel)) rfl
set_option maxRecDepth 100000 in
theorem q_408 : (.methodLink RJ0 495 yJ1_charAt_3b067) ∈ GW := gw_t (List.mem_of_getElem? (i := 408) (by decide +kernel)) rfl
set_option maxRecDepth 100000 in
theorem q_409 : (.static yJ1_charAt_3b067) ∈ GW := gw_t (List.mem_of_getElem? (i := 409) (by decide +kernel)) rfl
set_option maxRecDepth 100000 in
theorem q_410 : (.code yJ1_charAt_3b067 cJ1_charAt_3b067 2 (some .char)) ∈ GW := gw_t (List.mem_of_getElem? (i := 410) (by decide +kernel)) rfl
set_option maxRecDepth 100000 in
theorem q_411 : (.methodLink RJ1 9 yJ0_checkIndex_df160) ∈ GW := gw_t (List.mem_of_getElem? (i := 411) (by decide +kernel)) rfl
set_option maxRecDepth 100000 in
theorem q_412 : (.static yJ0_checkIndex_df160) ∈ GW := gw_t (List.mem_of_getElem? (i := 412) (by decide +kernel)) rfl
set_option maxRecDepth 100000 in
theorem q_413 : (.code yJ0_checkIndex_df160 cJ0_checkIndex_df160 2 none) ∈ GW := gw_t (List.mem_of_getElem? (i := 413) (by decide +kernel)) rfl
set_option maxRecDepth 100000 in
theorem q_414 : (.fieldLink RJ0 1053 "jdk/internal/util/Preconditions" "SIOOBE_FORMATTER" "Ljava/util/function/BiFunction;") ∈ GW := gw_t (List.mem_of_getElem? (i := 414) (by decide +kernel)) rfl
set_option maxRecDepth 100000 in
theorem q_416 : (.methodLink RJ0 1059 yJ3_checkIndex_8e157) ∈ GW := gw_t (List.mem_of_getElem? (i := 416) (by decide +kernel)) rfl
set_option maxRecDepth 100000 in
theorem q_417 : (.static yJ3_checkIndex_8e157) ∈ GW := gw_t (List.mem_of_getElem? (i := 417) (by decide +kernel)) rfl
set_option maxRecDepth 100000 in
theorem q_418 : (.code yJ3_checkIndex_8e157 cJ3_checkIndex_8e157 3 (some .int)) ∈ GW := gw_t (List.mem_of_getElem? (i := 418) (by decide +kernel)) rfl
set_option maxRecDepth 100000 in
theorem q_419 : (.methodLink RJ0 498 yJ2_charAt_3b067) ∈ GW := gw_t (List.mem_of_getElem? (i := 419) (by decide +kernel)) rfl
set_option maxRecDepth 100000 in
theorem q_420 : (.static yJ2_charAt_3b067) ∈ GW := gw_t (List.mem_of_getElem? (i := 420) (by decide +kernel)) rfl
set_option maxRecDepth 100000 in
theorem q_421 : (.code yJ2_charAt_3b067 cJ2_charAt_3b067 2 (some .char)) ∈ GW := gw_t (List.mem_of_getElem? (i := 421) (by decide +kernel)) rfl
set_option maxRecDepth 100000 in
theorem q_422 : (.methodLink RJ2 67 yJ2_checkIndex_2214a) ∈ GW := gw_t (List.mem_of_getElem? (i := 422) (by decide +kernel)) rfl
set_option maxRecDepth 100000 in
theorem q_423 : (.static yJ2_checkIndex_2214a) ∈ GW := gw_t (List.mem_of_getElem? (i := 423) (by decide +kernel)) rfl
set_option maxRecDepth 100000 in
theorem q_424 : (.code yJ2_checkIndex_2214a cJ2_checkIndex_2214a 2 none) ∈ GW := gw_t (List.mem_of_getElem? (i := 424) (by decide +kernel)) rfl
set_option maxRecDepth 100000 in
theorem q_425 : (.methodLink RJ2 48 yJ2_length_9d52b) ∈ GW := gw_t (List.mem_of_getElem? (i := 425) (by decide +kernel)) rfl
set_option maxRecDepth 100000 in
theorem q_426 : (.static yJ2_length_9d52b) ∈ GW := gw_t (List.mem_of_getElem? (i := 426) (by decide +kernel)) rfl
set_option maxRecDepth 100000 in
theorem q_427 : (.code yJ2_length_9d52b cJ2_length_9d52b 1 (some .int)) ∈ GW := gw_t (List.mem_of_getElem? (i := 427) (by decide +kernel)) rfl
set_option maxRecDepth 100000 in
theorem q_428 : (.methodLink RJ2 414 yJ0_checkIndex_df160) ∈ GW := gw_t (List.mem_of_getElem? (i := 428) (by decide +kernel)) rfl
set_option maxRecDepth 100000 in
theorem q_429 : (.methodLink RJ2 71 yJ2_getChar_3b067) ∈ GW := gw_t (List.mem_of_getElem? (i := 429) (by decide +kernel)) rfl
set_option maxRecDepth 100000 in
theorem q_430 : (.static yJ2_getChar_3b067) ∈ GW := gw_t (List.mem_of_getElem? (i := 430) (by decide +kernel)) rfl
set_option maxRecDepth 100000 in
theorem q_431 : (.code yJ2_getChar_3b067 cJ2_getChar_3b067 2 (some .char)) ∈ GW := gw_t (List.mem_of_getElem? (i := 431) (by decide +kernel)) rfl
set_option maxRecDepth 100000 in
theorem q_432 : (.fieldLink RJ2 44 "java/lang/StringUTF16" "$assertionsDisabled" "Z") ∈ GW := gw_t (List.mem_of_getElem? (i := 432) (by decide +kernel)) rfl
set_option maxRecDepth 100000 in
theorem q_434 : (.fieldLink RJ2 59 "java/lang/StringUTF16" "HI_BYTE_SHIFT" "I") ∈ GW := gw_t (List.mem_of_getElem? (i := 434) (by decide +kernel)) rfl
set_option maxRecDepth 100000 in
theorem q_436 : (.fieldLink RJ2 63 "java/lang/StringUTF16" "LO_BYTE_SHIFT" "I") ∈ GW := gw_t (List.mem_of_getElem? (i := 436) (by decide +kernel)) rfl
set_option maxRecDepth 100000 in
theorem q_442 : (.methodLink RX2 49 yX2_readNumber) ∈ GW := gw_t (List.mem_of_getElem? (i := 442) (by decide +kernel)) rfl
set_option maxRecDepth 100000 in
theorem q_443 : (.instanceMethod yX2_readNumber) ∈ GW := gw_t (List.mem_of_getElem? (i := 443) (by decide +kernel)) rfl
set_option maxRecDepth 100000 in
theorem q_444 : (.selects RX2 yX2_readNumber yX2_readNumber) ∈ GW := gw_t (List.mem_of_getElem? (i := 444) (by decide +kernel)) rfl
set_option maxRecDepth 100000 in
theorem q_445 : (.code yX2_readNumber cX2_readNumber 5 (some .int)) ∈ GW := gw_t (List.mem_of_getElem? (i := 445) (by decide +kernel)) rfl
set_option maxRecDepth 100000 in
theorem q_447 : (.methodLink RX2 71 yX2_digit) ∈ GW := gw_t (List.mem_of_getElem? (i := 447) (by decide +kernel)) rfl
set_option maxRecDepth 100000 in
theorem q_448 : (.instanceMethod yX2_digit) ∈ GW := gw_t (List.mem_of_getElem? (i := 448) (by decide +kernel)) rfl
set_option maxRecDepth 100000 in
theorem q_449 : (.selects RX2 yX2_digit yX2_digit) ∈ GW := gw_t (List.mem_of_getElem? (i := 449) (by decide +kernel)) rfl
set_option maxRecDepth 100000 in
theorem q_450 : (.code yX2_digit cX2_digit 2 (some .int)) ∈ GW := gw_t (List.mem_of_getElem? (i := 450) (by decide +kernel)) rfl
set_option maxRecDepth 100000 in
theorem q_452 : (.arrayClass .byte) ∈ GW := gw_t (List.mem_of_getElem? (i := 452) (by decide +kernel)) rfl
set_option maxRecDepth 100000 in
theorem q_453 : (.methodLink RL 28 yX5_pin) ∈ GW := gw_t (List.mem_of_getElem? (i := 453) (by decide +kernel)) rfl
set_option maxRecDepth 100000 in
theorem q_454 : (.instanceMethod yX5_pin) ∈ GW := gw_t (List.mem_of_getElem? (i := 454) (by decide +kernel)) rfl
set_option maxRecDepth 100000 in
theorem q_455 : (.selects RX5 yX5_pin yX5_pin) ∈ GW := gw_t (List.mem_of_getElem? (i := 455) (by decide +kernel)) rfl
set_option maxRecDepth 100000 in
theorem q_456 : (.code yX5_pin cX5_pin 3 (some .int)) ∈ GW := gw_t (List.mem_of_getElem? (i := 456) (by decide +kernel)) rfl
set_option maxRecDepth 100000 in
theorem q_457 : (.methodLink RX5 89 yX5_hasPlan) ∈ GW := gw_t (List.mem_of_getElem? (i := 457) (by decide +kernel)) rfl
set_option maxRecDepth 100000 in
theorem q_459 : (.instanceMethod yX5_hasPlan) ∈ GW := gw_t (List.mem_of_getElem? (i := 459) (by decide +kernel)) rfl
set_option maxRecDepth 100000 in
theorem q_460 : (.code yX5_hasPlan cX5_hasPlan 2 (some .boolean)) ∈ GW := gw_t (List.mem_of_getElem? (i := 460) (by decide +kernel)) rfl
set_option maxRecDepth 100000 in
theorem q_461 : (.methodLink RX5 101 yX3_pinnedPlans) ∈ GW := gw_t (List.mem_of_getElem? (i := 461) (by decide +kernel)) rfl
set_option maxRecDepth 100000 in
theorem q_462 : (.methodLink RL 33 yX5_throwOut) ∈ GW := gw_t (List.mem_of_getElem? (i := 462) (by decide +kernel)) rfl
set_option maxRecDepth 100000 in
theorem q_463 : (.instanceMethod yX5_throwOut) ∈ GW := gw_t (List.mem_of_getElem? (i := 463) (by decide +kernel)) rfl
set_option maxRecDepth 100000 in
theorem q_464 : (.selects RX5 yX5_throwOut yX5_throwOut) ∈ GW := gw_t (List.mem_of_getElem? (i := 464) (by decide +kernel)) rfl
set_option maxRecDepth 100000 in
theorem q_465 : (.code yX5_throwOut cX5_throwOut 2 (some .int)) ∈ GW := gw_t (List.mem_of_getElem? (i := 465) (by decide +kernel)) rfl
set_option maxRecDepth 100000 in
theorem q_466 : (.methodLink RX5 107 yX3_keptPlans) ∈ GW := gw_t (List.mem_of_getElem? (i := 466) (by decide +kernel)) rfl
set_option maxRecDepth 100000 in
theorem q_467 : (.methodLink RL 38 yX5_make) ∈ GW := gw_t (List.mem_of_getElem? (i := 467) (by decide +kernel)) rfl
set_option maxRecDepth 100000 in
theorem q_468 : (.instanceMethod yX5_make) ∈ GW := gw_t (List.mem_of_getElem? (i := 468) (by decide +kernel)) rfl
set_option maxRecDepth 100000 in
theorem q_469 : (.selects RX5 yX5_make yX5_make) ∈ GW := gw_t (List.mem_of_getElem? (i := 469) (by decide +kernel)) rfl
set_option maxRecDepth 100000 in
theorem q_470 : (.code yX5_make cX5_make 6 (some .int)) ∈ GW := gw_t (List.mem_of_getElem? (i := 470) (by decide +kernel)) rfl
set_option maxRecDepth 100000 in
theorem q_471 : (.methodLink RX5 110 yX5_isWay) ∈ GW := gw_t (List.mem_of_getElem? (i := 471) (by decide +kernel)) rfl
set_option maxRecDepth 100000 in
theorem q_472 : (.static yX5_isWay) ∈ GW := gw_t (List.mem_of_getElem? (i := 472) (by decide +kernel)) rfl
set_option maxRecDepth 100000 in
theorem q_473 : (.code yX5_isWay cX5_isWay 1 (some .boolean)) ∈ GW := gw_t (List.mem_of_getElem? (i := 473) (by decide +kernel)) rfl
set_option maxRecDepth 100000 in
theorem q_474 : (.constant RX5 113 (99999 : Int32)) ∈ GW := gw_t (List.mem_of_getElem? (i := 474) (by decide +kernel)) rfl
set_option maxRecDepth 100000 in
theorem q_475 : (.methodLink RX5 114 yX3_couldKeep) ∈ GW := gw_t (List.mem_of_getElem? (i := 475) (by decide +kernel)) rfl
set_option maxRecDepth 100000 in
theorem q_476 : (.methodLink RX5 117 yX3_makeRoomFor) ∈ GW := gw_t (List.mem_of_getElem? (i := 476) (by decide +kernel)) rfl
set_option maxRecDepth 100000 in
theorem q_477 : (.methodLink RX5 121 yX3_place) ∈ GW := gw_t (List.mem_of_getElem? (i := 477) (by decide +kernel)) rfl
set_option maxRecDepth 100000 in
theorem q_478 : (.methodLink RL 43 yX5_set) ∈ GW := gw_t (List.mem_of_getElem? (i := 478) (by decide +kernel)) rfl
set_option maxRecDepth 100000 in
theorem q_479 : (.instanceMethod yX5_set) ∈ GW := gw_t (List.mem_of_getElem? (i := 479) (by decide +kernel)) rfl
set_option maxRecDepth 100000 in
theorem q_480 : (.selects RX5 yX5_set yX5_set) ∈ GW := gw_t (List.mem_of_getElem? (i := 480) (by decide +kernel)) rfl
set_option maxRecDepth 100000 in
theorem q_481 : (.code yX5_set cX5_set 4 (some .int)) ∈ GW := gw_t (List.mem_of_getElem? (i := 481) (by decide +kernel)) rfl
set_option maxRecDepth 100000 in
theorem q_482 : (.fieldLink RX5 125 "KeptPlans" "LEAST_SETTING" "[I") ∈ GW := gw_t (List.mem_of_getElem? (i := 482) (by decide +kernel)) rfl
set_option maxRecDepth 100000 in
theorem q_484 : (.fieldLink RX5 128 "KeptPlans" "MOST_SETTING" "[I") ∈ GW := gw_t (List.mem_of_getElem? (i := 484) (by decide +kernel)) rfl
set_option maxRecDepth 100000 in
theorem q_486 : (.methodLink RX5 134 yX3_crowdOutDownTo) ∈ GW := gw_t (List.mem_of_getElem? (i := 486) (by decide +kernel)) rfl
set_option maxRecDepth 100000 in
theorem q_487 : (.methodLink RL 47 yX5_type) ∈ GW := gw_t (List.mem_of_getElem? (i := 487) (by decide +kernel)) rfl
set_option maxRecDepth 100000 in
theorem q_488 : (.instanceMethod yX5_type) ∈ GW := gw_t (List.mem_of_getElem? (i := 488) (by decide +kernel)) rfl
set_option maxRecDepth 100000 in
theorem q_489 : (.selects RX5 yX5_type yX5_type) ∈ GW := gw_t (List.mem_of_getElem? (i := 489) (by decide +kernel)) rfl
set_option maxRecDepth 100000 in
theorem q_490 : (.code yX5_type cX5_type 2 (some .int)) ∈ GW := gw_t (List.mem_of_getElem? (i := 490) (by decide +kernel)) rfl
set_option maxRecDepth 100000 in
theorem q_491 : (.methodLink RL 52 yX5_clearText) ∈ GW := gw_t (List.mem_of_getElem? (i := 491) (by decide +kernel)) rfl
set_option maxRecDepth 100000 in
theorem q_492 : (.instanceMethod yX5_clearText) ∈ GW := gw_t (List.mem_of_getElem? (i := 492) (by decide +kernel)) rfl
set_option maxRecDepth 100000 in
theorem q_493 : (.selects RX5 yX5_clearText yX5_clearText) ∈ GW := gw_t (List.mem_of_getElem? (i := 493) (by decide +kernel)) rfl
set_option maxRecDepth 100000 in
theorem q_494 : (.code yX5_clearText cX5_clearText 2 (some .int)) ∈ GW := gw_t (List.mem_of_getElem? (i := 494) (by decide +kernel)) rfl
set_option maxRecDepth 100000 in
theorem q_495 : (.methodLink RL 56 yX5_undo) ∈ GW := gw_t (List.mem_of_getElem? (i := 495) (by decide +kernel)) rfl
set_option maxRecDepth 100000 in
theorem q_496 : (.instanceMethod yX5_undo) ∈ GW := gw_t (List.mem_of_getElem? (i := 496) (by decide +kernel)) rfl
set_option maxRecDepth 100000 in
theorem q_497 : (.selects RX5 yX5_undo yX5_undo) ∈ GW := gw_t (List.mem_of_getElem? (i := 497) (by decide +kernel)) rfl
set_option maxRecDepth 100000 in
theorem q_498 : (.code yX5_undo cX5_undo 1 (some .int)) ∈ GW := gw_t (List.mem_of_getElem? (i := 498) (by decide +kernel)) rfl
set_option maxRecDepth 100000 in
theorem q_499 : (.methodLink RX5 147 yX0_takeBack) ∈ GW := gw_t (List.mem_of_getElem? (i := 499) (by decide +kernel)) rfl
set_option maxRecDepth 100000 in
theorem q_500 : (.instanceMethod yX0_takeBack) ∈ GW := gw_t (List.mem_of_getElem? (i := 500) (by decide +kernel)) rfl
set_option maxRecDepth 100000 in
theorem q_501 : (.selects RX0 yX0_takeBack yX0_takeBack) ∈ GW := gw_t (List.mem_of_getElem? (i := 501) (by decide +kernel)) rfl
set_option maxRecDepth 100000 in
theorem q_502 : (.code yX0_takeBack cX0_takeBack 2 none) ∈ GW := gw_t (List.mem_of_getElem? (i := 502) (by decide +kernel)) rfl
set_option maxRecDepth 100000 in
theorem q_503 : (.methodLink RL 60 yX5_keep) ∈ GW := gw_t (List.mem_of_getElem? (i := 503) (by decide +kernel)) rfl
set_option maxRecDepth 100000 in
theorem q_504 : (.instanceMethod yX5_keep) ∈ GW := gw_t (List.mem_of_getElem? (i := 504) (by decide +kernel)) rfl
set_option maxRecDepth 100000 in
theorem q_505 : (.selects RX5 yX5_keep yX5_keep) ∈ GW := gw_t (List.mem_of_getElem? (i := 505) (by decide +kernel)) rfl
set_option maxRecDepth 100000 in
theorem q_506 : (.code yX5_keep cX5_keep 1 (some .int)) ∈ GW := gw_t (List.mem_of_getElem? (i := 506) (by decide +kernel)) rfl
set_option maxRecDepth 100000 in
theorem q_507 : (.methodLink RX5 150 yX3_copyFrom) ∈ GW := gw_t (List.mem_of_getElem? (i := 507) (by decide +kernel)) rfl
set_option maxRecDepth 100000 in
theorem q_508 : (.methodLink RL 64 yX5_restore) ∈ GW := gw_t (List.mem_of_getElem? (i := 508) (by decide +kernel)) rfl
set_option maxRecDepth 100000 in
theorem q_509 : (.instanceMethod yX5_restore) ∈ GW := gw_t (List.mem_of_getElem? (i := 509) (by decide +kernel)) rfl
set_option maxRecDepth 100000 in
theorem q_510 : (.selects RX5 yX5_restore yX5_restore) ∈ GW := gw_t (List.mem_of_getElem? (i := 510) (by decide +kernel)) rfl
set_option maxRecDepth 100000 in
theorem q_511 : (.code yX5_restore cX5_restore 1 (some .int)) ∈ GW := gw_t (List.mem_of_getElem? (i := 511) (by decide +kernel)) rfl
set_option maxRecDepth 100000 in
theorem q_512 : (.methodLink RL 68 yX5_cost) ∈ GW := gw_t (List.mem_of_getElem? (i := 512) (by decide +kernel)) rfl
set_option maxRecDepth 100000 in
theorem q_513 : (.instanceMethod yX5_cost) ∈ GW := gw_t (List.mem_of_getElem? (i := 513) (by decide +kernel)) rfl
set_option maxRecDepth 100000 in
theorem q_514 : (.selects RX5 yX5_cost yX5_cost) ∈ GW := gw_t (List.mem_of_getElem? (i := 514) (by decide +kernel)) rfl
set_option maxRecDepth 100000 in
theorem q_515 : (.code yX5_cost cX5_cost 4 (some .int)) ∈ GW := gw_t (List.mem_of_getElem? (i := 515) (by decide +kernel)) rfl
set_option maxRecDepth 100000 in
theorem q_516 : (.methodLink RX5 153 yX3_priceBy) ∈ GW := gw_t (List.mem_of_getElem? (i := 516) (by decide +kernel)) rfl
set_option maxRecDepth 100000 in
theorem q_517 : (.methodLink RL 73 yX5_cheapest) ∈ GW := gw_t (List.mem_of_getElem? (i := 517) (by decide +kernel)) rfl
set_option maxRecDepth 100000 in
theorem q_518 : (.instanceMethod yX5_cheapest) ∈ GW := gw_t (List.mem_of_getElem? (i := 518) (by decide +kernel)) rfl
set_option maxRecDepth 100000 in
theorem q_519 : (.selects RX5 yX5_cheapest yX5_cheapest) ∈ GW := gw_t (List.mem_of_getElem? (i := 519) (by decide +kernel)) rfl
set_option maxRecDepth 100000 in
theorem q_520 : (.code yX5_cheapest cX5_cheapest 3 (some .int)) ∈ GW := gw_t (List.mem_of_getElem? (i := 520) (by decide +kernel)) rfl
set_option maxRecDepth 100000 in
theorem q_521 : (.methodLink RX5 157 yX3_cheapestWay) ∈ GW := gw_t (List.mem_of_getElem? (i := 521) (by decide +kernel)) rfl
set_option maxRecDepth 100000 in
theorem q_522 : (.methodLink RL 77 yX5_plan) ∈ GW := gw_t (List.mem_of_getElem? (i := 522) (by decide +kernel)) rfl
set_option maxRecDepth 100000 in
theorem q_523 : (.instanceMethod yX5_plan) ∈ GW := gw_t (List.mem_of_getElem? (i := 523) (by decide +kernel)) rfl
set_option maxRecDepth 100000 in
theorem q_524 : (.selects RX5 yX5_plan yX5_plan) ∈ GW := gw_t (List.mem_of_getElem? (i := 524) (by decide +kernel)) rfl
set_option maxRecDepth 100000 in
theorem q_525 : (.code yX5_plan cX5_plan 4 (some .int)) ∈ GW := gw_t (List.mem_of_getElem? (i := 525) (by decide +kernel)) rfl
set_option maxRecDepth 100000 in
theorem q_526 : (.methodLink RX5 181 yX3_isStale) ∈ GW := gw_t (List.mem_of_getElem? (i := 526) (by decide +kernel)) rfl
set_option maxRecDepth 100000 in
theorem q_527 : (.instanceMethod yX3_isStale) ∈ GW := gw_t (List.mem_of_getElem? (i := 527) (by decide +kernel)) rfl
set_option maxRecDepth 100000 in
theorem q_528 : (.selects RX3 yX3_isStale yX3_isStale) ∈ GW := gw_t (List.mem_of_getElem? (i := 528) (by decide +kernel)) rfl
set_option maxRecDepth 100000 in
theorem q_529 : (.code yX3_isStale cX3_isStale 2 (some .boolean)) ∈ GW := gw_t (List.mem_of_getElem? (i := 529) (by decide +kernel)) rfl
set_option maxRecDepth 100000 in
theorem q_530 : (.methodLink RL 81 yX5_reason) ∈ GW := gw_t (List.mem_of_getElem? (i := 530) (by decide +kernel)) rfl
set_option maxRecDepth 100000 in
theorem q_531 : (.instanceMethod yX5_reason) ∈ GW := gw_t (List.mem_of_getElem? (i := 531) (by decide +kernel)) rfl
set_option maxRecDepth 100000 in
theorem q_532 : (.selects RX5 yX5_reason yX5_reason) ∈ GW := gw_t (List.mem_of_getElem? (i := 532) (by decide +kernel)) rfl
set_option maxRecDepth 100000 in
theorem q_533 : (.code yX5_reason cX5_reason 3 (some .int)) ∈ GW := gw_t (List.mem_of_getElem? (i := 533) (by decide +kernel)) rfl
set_option maxRecDepth 100000 in
theorem q_534 : (.methodLink RX5 191 yX3_whyNotUsed) ∈ GW := gw_t (List.mem_of_getElem? (i := 534) (by decide +kernel)) rfl
set_option maxRecDepth 100000 in
theorem q_535 : (.methodLink RL 85 yX5_ifAsked) ∈ GW := gw_t (List.mem_of_getElem? (i := 535) (by decide +kernel)) rfl
set_option maxRecDepth 100000 in
theorem q_536 : (.instanceMethod yX5_ifAsked) ∈ GW := gw_t (List.mem_of_getElem? (i := 536) (by decide +kernel)) rfl
set_option maxRecDepth 100000 in
theorem q_537 : (.selects RX5 yX5_ifAsked yX5_ifAsked) ∈ GW := gw_t (List.mem_of_getElem? (i := 537) (by decide +kernel)) rfl
set_option maxRecDepth 100000 in
theorem q_538 : (.code yX5_ifAsked cX5_ifAsked 9 (some .int)) ∈ GW := gw_t (List.mem_of_getElem? (i := 538) (by decide +kernel)) rfl
set_option maxRecDepth 100000 in
theorem q_539 : (.methodLink RX5 194 yX3_isTooDear) ∈ GW := gw_t (List.mem_of_getElem? (i := 539) (by decide +kernel)) rfl
set_option maxRecDepth 100000 in
theorem q_540 : (.methodLink RX5 197 yX3_firstCrowdedOutBy) ∈ GW := gw_t (List.mem_of_getElem? (i := 540) (by decide +kernel)) rfl
set_option maxRecDepth 100000 in
theorem q_541 : (.instanceMethod yX3_firstCrowdedOutBy) ∈ GW := gw_t (List.mem_of_getElem? (i := 541) (by decide +kernel)) rfl
set_option maxRecDepth 100000 in
theorem q_542 : (.selects RX3 yX3_firstCrowdedOutBy yX3_firstCrowdedOutBy) ∈ GW := gw_t (List.mem_of_getElem? (i := 542) (by decide +kernel)) rfl
set_option maxRecDepth 100000 in
theorem q_543 : (.code yX3_firstCrowdedOutBy cX3_firstCrowdedOutBy 2 (some .int)) ∈ GW := gw_t (List.mem_of_getElem? (i := 543) (by decide +kernel)) rfl
set_option maxRecDepth 100000 in
theorem q_544 : (.methodLink RL 89 yX5_reach) ∈ GW := gw_t (List.mem_of_getElem? (i := 544) (by decide +kernel)) rfl
set_option maxRecDepth 100000 in
theorem q_545 : (.instanceMethod yX5_reach) ∈ GW := gw_t (List.mem_of_getElem? (i := 545) (by decide +kernel)) rfl
set_option maxRecDepth 100000 in
theorem q_546 : (.selects RX5 yX5_reach yX5_reach) ∈ GW := gw_t (List.mem_of_getElem? (i := 546) (by decide +kernel)) rfl
set_option maxRecDepth 100000 in
theorem q_547 : (.code yX5_reach cX5_reach 5 (some .int)) ∈ GW := gw_t (List.mem_of_getElem? (i := 547) (by decide +kernel)) rfl
set_option maxRecDepth 100000 in
theorem q_548 : (.methodLink RL 93 yX5_oldest) ∈ GW := gw_t (List.mem_of_getElem? (i := 548) (by decide +kernel)) rfl
set_option maxRecDepth 100000 in
theorem q_549 : (.instanceMethod yX5_oldest) ∈ GW := gw_t (List.mem_of_getElem? (i := 549) (by decide +kernel)) rfl
set_option maxRecDepth 100000 in
theorem q_550 : (.selects RX5 yX5_oldest yX5_oldest) ∈ GW := gw_t (List.mem_of_getElem? (i := 550) (by decide +kernel)) rfl
set_option maxRecDepth 100000 in
theorem q_551 : (.code yX5_oldest cX5_oldest 1 (some .int)) ∈ GW := gw_t (List.mem_of_getElem? (i := 551) (by decide +kernel)) rfl
set_option maxRecDepth 100000 in
theorem q_552 : (.methodLink RX5 204 yX3_oldestUnpinned) ∈ GW := gw_t (List.mem_of_getElem? (i := 552) (by decide +kernel)) rfl
set_option maxRecDepth 100000 in
theorem q_553 : (.methodLink RL 97 yX5_tableOf) ∈ GW := gw_t (List.mem_of_getElem? (i := 553) (by decide +kernel)) rfl
set_option maxRecDepth 100000 in
theorem q_554 : (.instanceMethod yX5_tableOf) ∈ GW := gw_t (List.mem_of_getElem? (i := 554) (by decide +kernel)) rfl
set_option maxRecDepth 100000 in
theorem q_555 : (.selects RX5 yX5_tableOf yX5_tableOf) ∈ GW := gw_t (List.mem_of_getElem? (i := 555) (by decide +kernel)) rfl
set_option maxRecDepth 100000 in
theorem q_556 : (.code yX5_tableOf cX5_tableOf 4 (some .int)) ∈ GW := gw_t (List.mem_of_getElem? (i := 556) (by decide +kernel)) rfl
set_option maxRecDepth 100000 in
theorem q_557 : (.methodLink RX5 207 yX3_keptPlansOf) ∈ GW := gw_t (List.mem_of_getElem? (i := 557) (by decide +kernel)) rfl
set_option maxRecDepth 100000 in
theorem q_558 : (.instanceMethod yX3_keptPlansOf) ∈ GW := gw_t (List.mem_of_getElem? (i := 558) (by decide +kernel)) rfl
set_option maxRecDepth 100000 in
theorem q_559 : (.selects RX3 yX3_keptPlansOf yX3_keptPlansOf) ∈ GW := gw_t (List.mem_of_getElem? (i := 559) (by decide +kernel)) rfl
set_option maxRecDepth 100000 in
theorem q_560 : (.code yX3_keptPlansOf cX3_keptPlansOf 4 (some .int)) ∈ GW := gw_t (List.mem_of_getElem? (i := 560) (by decide +kernel)) rfl
set_option maxRecDepth 100000 in
theorem q_561 : (.methodLink RL 101 yX5_count) ∈ GW := gw_t (List.mem_of_getElem? (i := 561) (by decide +kernel)) rfl
set_option maxRecDepth 100000 in
theorem q_562 : (.instanceMethod yX5_count) ∈ GW := gw_t (List.mem_of_getElem? (i := 562) (by decide +kernel)) rfl
set_option maxRecDepth 100000 in
theorem q_563 : (.selects RX5 yX5_count yX5_count) ∈ GW := gw_t (List.mem_of_getElem? (i := 563) (by decide +kernel)) rfl
set_option maxRecDepth 100000 in
theorem q_564 : (.code yX5_count cX5_count 2 (some .int)) ∈ GW := gw_t (List.mem_of_getElem? (i := 564) (by decide +kernel)) rfl
set_option maxRecDepth 100000 in
theorem q_565 : (.methodLink RX5 214 yX3_stalePlans) ∈ GW := gw_t (List.mem_of_getElem? (i := 565) (by decide +kernel)) rfl
set_option maxRecDepth 100000 in
theorem q_566 : (.instanceMethod yX3_stalePlans) ∈ GW := gw_t (List.mem_of_getElem? (i := 566) (by decide +kernel)) rfl
set_option maxRecDepth 100000 in
theorem q_567 : (.selects RX3 yX3_stalePlans yX3_stalePlans) ∈ GW := gw_t (List.mem_of_getElem? (i := 567) (by decide +kernel)) rfl
set_option maxRecDepth 100000 in
theorem q_568 : (.code yX3_stalePlans cX3_stalePlans 3 (some .int)) ∈ GW := gw_t (List.mem_of_getElem? (i := 568) (by decide +kernel)) rfl
set_option maxRecDepth 100000 in
theorem q_569 : (.methodLink RX3 176 yX3_isStale) ∈ GW := gw_t (List.mem_of_getElem? (i := 569) (by decide +kernel)) rfl
set_option maxRecDepth 100000 in
theorem q_570 : (.classLink RL 10 "KeptPlansModel") ∈ GW := gw_t (List.mem_of_getElem? (i := 570) (by decide +kernel)) rfl
set_option maxRecDepth 100000 in
theorem q_571 : (.instantiable RX6 12) ∈ GW := gw_t (List.mem_of_getElem? (i := 571) (by decide +kernel)) rfl
set_option maxRecDepth 100000 in
theorem q_572 : (.methodLink RL 12 yX6_init) ∈ GW := gw_t (List.mem_of_getElem? (i := 572) (by decide +kernel)) rfl
set_option maxRecDepth 100000 in
theorem q_573 : (.instanceMethod yX6_init) ∈ GW := gw_t (List.mem_of_getElem? (i := 573) (by decide +kernel)) rfl
set_option maxRecDepth 100000 in
theorem q_574 : (.code yX6_init cX6_init 2 none) ∈ GW := gw_t (List.mem_of_getElem? (i := 574) (by decide +kernel)) rfl
set_option maxRecDepth 100000 in
theorem q_575 : (.methodLink RX6 1 objectInit) ∈ GW := gw_t (List.mem_of_getElem? (i := 575) (by decide +kernel)) rfl
set_option maxRecDepth 100000 in
theorem q_576 : (.fieldLink RX6 7 "KeptPlansModel" "s" "[I") ∈ GW := gw_t (List.mem_of_getElem? (i := 576) (by decide +kernel)) rfl
set_option maxRecDepth 100000 in
theorem q_577 : (.fieldLink RX6 21 "KeptPlansModel" "states" "I") ∈ GW := gw_t (List.mem_of_getElem? (i := 577) (by decide +kernel)) rfl
set_option maxRecDepth 100000 in
theorem q_578 : (.fieldLink RX6 153 "KeptPlansModel" "isKept" "Z") ∈ GW := gw_t (List.mem_of_getElem? (i := 578) (by decide +kernel)) rfl
set_option maxRecDepth 100000 in
theorem q_579 : (.fieldLink RX6 13 "KeptPlansModel" "text" "[C") ∈ GW := gw_t (List.mem_of_getElem? (i := 579) (by decide +kernel)) rfl
set_option maxRecDepth 100000 in
theorem q_580 : (.fieldLink RX6 102 "KeptPlansModel" "typed" "I") ∈ GW := gw_t (List.mem_of_getElem? (i := 580) (by decide +kernel)) rfl
set_option maxRecDepth 100000 in
theorem q_581 : (.fieldLink RX6 99 "KeptPlansModel" "at" "I") ∈ GW := gw_t (List.mem_of_getElem? (i := 581) (by decide +kernel)) rfl
set_option maxRecDepth 100000 in
theorem q_582 : (.fieldLink RX6 112 "KeptPlansModel" "order" "I") ∈ GW := gw_t (List.mem_of_getElem? (i := 582) (by decide +kernel)) rfl
set_option maxRecDepth 100000 in
theorem q_583 : (.fieldLink RX6 123 "KeptPlansModel" "table" "I") ∈ GW := gw_t (List.mem_of_getElem? (i := 583) (by decide +kernel)) rfl
set_option maxRecDepth 100000 in
theorem q_584 : (.fieldLink RX6 126 "KeptPlansModel" "number" "I") ∈ GW := gw_t (List.mem_of_getElem? (i := 584) (by decide +kernel)) rfl
set_option maxRecDepth 100000 in
theorem q_585 : (.fieldLink RX6 72 "KeptPlansModel" "way" "I") ∈ GW := gw_t (List.mem_of_getElem? (i := 585) (by decide +kernel)) rfl
set_option maxRecDepth 100000 in
theorem q_586 : (.fieldLink RX6 75 "KeptPlansModel" "isBad" "Z") ∈ GW := gw_t (List.mem_of_getElem? (i := 586) (by decide +kernel)) rfl
set_option maxRecDepth 100000 in
theorem q_587 : (.fieldLink RX6 55 "KeptPlansModel" "gone" "I") ∈ GW := gw_t (List.mem_of_getElem? (i := 587) (by decide +kernel)) rfl
set_option maxRecDepth 100000 in
theorem q_613 : (.methodLink RL 17 yX6_table) ∈ GW := gw_t (List.mem_of_getElem? (i := 613) (by decide +kernel)) rfl
set_option maxRecDepth 100000 in
theorem q_614 : (.instanceMethod yX6_table) ∈ GW := gw_t (List.mem_of_getElem? (i := 614) (by decide +kernel)) rfl
set_option maxRecDepth 100000 in
theorem q_615 : (.selects RX6 yX6_table yX6_table) ∈ GW := gw_t (List.mem_of_getElem? (i := 615) (by decide +kernel)) rfl
set_option maxRecDepth 100000 in
theorem q_616 : (.code yX6_table cX6_table 6 (some .int)) ∈ GW := gw_t (List.mem_of_getElem? (i := 616) (by decide +kernel)) rfl
set_option maxRecDepth 100000 in
theorem q_617 : (.methodLink RX6 17 yX6_in) ∈ GW := gw_t (List.mem_of_getElem? (i := 617) (by decide +kernel)) rfl
set_option maxRecDepth 100000 in
theorem q_618 : (.static yX6_in) ∈ GW := gw_t (List.mem_of_getElem? (i := 618) (by decide +kernel)) rfl
set_option maxRecDepth 100000 in
theorem q_619 : (.code yX6_in cX6_in 3 (some .boolean)) ∈ GW := gw_t (List.mem_of_getElem? (i := 619) (by decide +kernel)) rfl
set_option maxRecDepth 100000 in
theorem q_620 : (.methodLink RX6 86 yX6_records) ∈ GW := gw_t (List.mem_of_getElem? (i := 620) (by decide +kernel)) rfl
set_option maxRecDepth 100000 in
theorem q_622 : (.instanceMethod yX6_records) ∈ GW := gw_t (List.mem_of_getElem? (i := 622) (by decide +kernel)) rfl
set_option maxRecDepth 100000 in
theorem q_623 : (.code yX6_records cX6_records 2 none) ∈ GW := gw_t (List.mem_of_getElem? (i := 623) (by decide +kernel)) rfl
set_option maxRecDepth 100000 in
theorem q_624 : (.methodLink RX6 25 yX6_copies) ∈ GW := gw_t (List.mem_of_getElem? (i := 624) (by decide +kernel)) rfl
set_option maxRecDepth 100000 in
theorem q_626 : (.instanceMethod yX6_copies) ∈ GW := gw_t (List.mem_of_getElem? (i := 626) (by decide +kernel)) rfl
set_option maxRecDepth 100000 in
theorem q_627 : (.code yX6_copies cX6_copies 4 none) ∈ GW := gw_t (List.mem_of_getElem? (i := 627) (by decide +kernel)) rfl
set_option maxRecDepth 100000 in
theorem q_628 : (.methodLink RL 22 yX6_ask) ∈ GW := gw_t (List.mem_of_getElem? (i := 628) (by decide +kernel)) rfl
set_option maxRecDepth 100000 in
theorem q_629 : (.instanceMethod yX6_ask) ∈ GW := gw_t (List.mem_of_getElem? (i := 629) (by decide +kernel)) rfl
set_option maxRecDepth 100000 in
theorem q_630 : (.selects RX6 yX6_ask yX6_ask) ∈ GW := gw_t (List.mem_of_getElem? (i := 630) (by decide +kernel)) rfl
set_option maxRecDepth 100000 in
theorem q_631 : (.code yX6_ask cX6_ask 3 (some .int)) ∈ GW := gw_t (List.mem_of_getElem? (i := 631) (by decide +kernel)) rfl
set_option maxRecDepth 100000 in
theorem q_632 : (.methodLink RX6 89 yX6_isShape) ∈ GW := gw_t (List.mem_of_getElem? (i := 632) (by decide +kernel)) rfl
set_option maxRecDepth 100000 in
theorem q_633 : (.static yX6_isShape) ∈ GW := gw_t (List.mem_of_getElem? (i := 633) (by decide +kernel)) rfl
set_option maxRecDepth 100000 in
theorem q_634 : (.code yX6_isShape cX6_isShape 1 (some .boolean)) ∈ GW := gw_t (List.mem_of_getElem? (i := 634) (by decide +kernel)) rfl
set_option maxRecDepth 100000 in
theorem q_635 : (.methodLink RX6 93 yX6_isNumber) ∈ GW := gw_t (List.mem_of_getElem? (i := 635) (by decide +kernel)) rfl
set_option maxRecDepth 100000 in
theorem q_636 : (.static yX6_isNumber) ∈ GW := gw_t (List.mem_of_getElem? (i := 636) (by decide +kernel)) rfl
set_option maxRecDepth 100000 in
theorem q_637 : (.code yX6_isNumber cX6_isNumber 2 (some .boolean)) ∈ GW := gw_t (List.mem_of_getElem? (i := 637) (by decide +kernel)) rfl
set_option maxRecDepth 100000 in
theorem q_638 : (.methodLink RX6 96 yX6_asks) ∈ GW := gw_t (List.mem_of_getElem? (i := 638) (by decide +kernel)) rfl
set_option maxRecDepth 100000 in
theorem q_640 : (.instanceMethod yX6_asks) ∈ GW := gw_t (List.mem_of_getElem? (i := 640) (by decide +kernel)) rfl
set_option maxRecDepth 100000 in
theorem q_641 : (.code yX6_asks cX6_asks 7 (some .int)) ∈ GW := gw_t (List.mem_of_getElem? (i := 641) (by decide +kernel)) rfl
set_option maxRecDepth 100000 in
theorem q_642 : (.methodLink RX6 38 yX6_planAt) ∈ GW := gw_t (List.mem_of_getElem? (i := 642) (by decide +kernel)) rfl
set_option maxRecDepth 100000 in
theorem q_643 : (.static yX6_planAt) ∈ GW := gw_t (List.mem_of_getElem? (i := 643) (by decide +kernel)) rfl
set_option maxRecDepth 100000 in
theorem q_644 : (.code yX6_planAt cX6_planAt 2 (some .int)) ∈ GW := gw_t (List.mem_of_getElem? (i := 644) (by decide +kernel)) rfl
set_option maxRecDepth 100000 in
theorem q_645 : (.methodLink RX6 65 yX6_why) ∈ GW := gw_t (List.mem_of_getElem? (i := 645) (by decide +kernel)) rfl
set_option maxRecDepth 100000 in
theorem q_647 : (.instanceMethod yX6_why) ∈ GW := gw_t (List.mem_of_getElem? (i := 647) (by decide +kernel)) rfl
set_option maxRecDepth 100000 in
theorem q_648 : (.code yX6_why cX6_why 5 (some .int)) ∈ GW := gw_t (List.mem_of_getElem? (i := 648) (by decide +kernel)) rfl
set_option maxRecDepth 100000 in
theorem q_649 : (.methodLink RX6 45 yX6_isChanged) ∈ GW := gw_t (List.mem_of_getElem? (i := 649) (by decide +kernel)) rfl
set_option maxRecDepth 100000 in
theorem q_651 : (.instanceMethod yX6_isChanged) ∈ GW := gw_t (List.mem_of_getElem? (i := 651) (by decide +kernel)) rfl
set_option maxRecDepth 100000 in
theorem q_652 : (.code yX6_isChanged cX6_isChanged 5 (some .boolean)) ∈ GW := gw_t (List.mem_of_getElem? (i := 652) (by decide +kernel)) rfl
set_option maxRecDepth 100000 in
theorem q_653 : (.methodLink RX6 49 yX6_isOld) ∈ GW := gw_t (List.mem_of_getElem? (i := 653) (by decide +kernel)) rfl
set_option maxRecDepth 100000 in
theorem q_655 : (.instanceMethod yX6_isOld) ∈ GW := gw_t (List.mem_of_getElem? (i := 655) (by decide +kernel)) rfl
set_option maxRecDepth 100000 in
theorem q_656 : (.code yX6_isOld cX6_isOld 3 (some .boolean)) ∈ GW := gw_t (List.mem_of_getElem? (i := 656) (by decide +kernel)) rfl
set_option maxRecDepth 100000 in
theorem q_657 : (.methodLink RX6 42 yX6_age) ∈ GW := gw_t (List.mem_of_getElem? (i := 657) (by decide +kernel)) rfl
set_option maxRecDepth 100000 in
theorem q_659 : (.instanceMethod yX6_age) ∈ GW := gw_t (List.mem_of_getElem? (i := 659) (by decide +kernel)) rfl
set_option maxRecDepth 100000 in
theorem q_660 : (.code yX6_age cX6_age 3 (some .int)) ∈ GW := gw_t (List.mem_of_getElem? (i := 660) (by decide +kernel)) rfl
set_option maxRecDepth 100000 in
theorem q_661 : (.methodLink RX6 69 yX6_cheapestOf) ∈ GW := gw_t (List.mem_of_getElem? (i := 661) (by decide +kernel)) rfl
set_option maxRecDepth 100000 in
theorem q_663 : (.instanceMethod yX6_cheapestOf) ∈ GW := gw_t (List.mem_of_getElem? (i := 663) (by decide +kernel)) rfl
set_option maxRecDepth 100000 in
theorem q_664 : (.code yX6_cheapestOf cX6_cheapestOf 6 (some .int)) ∈ GW := gw_t (List.mem_of_getElem? (i := 664) (by decide +kernel)) rfl
set_option maxRecDepth 100000 in
theorem q_665 : (.methodLink RX6 34 yX6_costs) ∈ GW := gw_t (List.mem_of_getElem? (i := 665) (by decide +kernel)) rfl
set_option maxRecDepth 100000 in
theorem q_667 : (.instanceMethod yX6_costs) ∈ GW := gw_t (List.mem_of_getElem? (i := 667) (by decide +kernel)) rfl
set_option maxRecDepth 100000 in
theorem q_668 : (.code yX6_costs cX6_costs 10 (some .int)) ∈ GW := gw_t (List.mem_of_getElem? (i := 668) (by decide +kernel)) rfl
set_option maxRecDepth 100000 in
theorem q_669 : (.methodLink RX6 29 yX6_bits) ∈ GW := gw_t (List.mem_of_getElem? (i := 669) (by decide +kernel)) rfl
set_option maxRecDepth 100000 in
theorem q_670 : (.static yX6_bits) ∈ GW := gw_t (List.mem_of_getElem? (i := 670) (by decide +kernel)) rfl
set_option maxRecDepth 100000 in
theorem q_671 : (.code yX6_bits cX6_bits 3 (some .int)) ∈ GW := gw_t (List.mem_of_getElem? (i := 671) (by decide +kernel)) rfl
set_option maxRecDepth 100000 in
theorem q_672 : (.constant RX6 33 (1000000 : Int32)) ∈ GW := gw_t (List.mem_of_getElem? (i := 672) (by decide +kernel)) rfl
set_option maxRecDepth 100000 in
theorem q_673 : (.methodLink RX6 79 yX6_hasRoom) ∈ GW := gw_t (List.mem_of_getElem? (i := 673) (by decide +kernel)) rfl
set_option maxRecDepth 100000 in
theorem q_675 : (.instanceMethod yX6_hasRoom) ∈ GW := gw_t (List.mem_of_getElem? (i := 675) (by decide +kernel)) rfl
set_option maxRecDepth 100000 in
theorem q_676 : (.code yX6_hasRoom cX6_hasRoom 3 (some .boolean)) ∈ GW := gw_t (List.mem_of_getElem? (i := 676) (by decide +kernel)) rfl
set_option maxRecDepth 100000 in
theorem q_677 : (.methodLink RX6 58 yX6_kept) ∈ GW := gw_t (List.mem_of_getElem? (i := 677) (by decide +kernel)) rfl
set_option maxRecDepth 100000 in
theorem q_679 : (.instanceMethod yX6_kept) ∈ GW := gw_t (List.mem_of_getElem? (i := 679) (by decide +kernel)) rfl
set_option maxRecDepth 100000 in
theorem q_680 : (.code yX6_kept cX6_kept 4 (some .int)) ∈ GW := gw_t (List.mem_of_getElem? (i := 680) (by decide +kernel)) rfl
set_option maxRecDepth 100000 in
theorem q_681 : (.methodLink RX6 52 yX6_oldestOf) ∈ GW := gw_t (List.mem_of_getElem? (i := 681) (by decide +kernel)) rfl
set_option maxRecDepth 100000 in
theorem q_683 : (.instanceMethod yX6_oldestOf) ∈ GW := gw_t (List.mem_of_getElem? (i := 683) (by decide +kernel)) rfl
set_option maxRecDepth 100000 in
theorem q_684 : (.code yX6_oldestOf cX6_oldestOf 6 (some .int)) ∈ GW := gw_t (List.mem_of_getElem? (i := 684) (by decide +kernel)) rfl
set_option maxRecDepth 100000 in
theorem q_685 : (.methodLink RX6 61 yX6_throwsOldest) ∈ GW := gw_t (List.mem_of_getElem? (i := 685) (by decide +kernel)) rfl
set_option maxRecDepth 100000 in
theorem q_687 : (.instanceMethod yX6_throwsOldest) ∈ GW := gw_t (List.mem_of_getElem? (i := 687) (by decide +kernel)) rfl
set_option maxRecDepth 100000 in
theorem q_688 : (.code yX6_throwsOldest cX6_throwsOldest 3 none) ∈ GW := gw_t (List.mem_of_getElem? (i := 688) (by decide +kernel)) rfl
set_option maxRecDepth 100000 in
theorem q_689 : (.methodLink RX6 82 yX6_lays) ∈ GW := gw_t (List.mem_of_getElem? (i := 689) (by decide +kernel)) rfl
set_option maxRecDepth 100000 in
theorem q_691 : (.instanceMethod yX6_lays) ∈ GW := gw_t (List.mem_of_getElem? (i := 691) (by decide +kernel)) rfl
set_option maxRecDepth 100000 in
theorem q_692 : (.code yX6_lays cX6_lays 8 none) ∈ GW := gw_t (List.mem_of_getElem? (i := 692) (by decide +kernel)) rfl
set_option maxRecDepth 100000 in
theorem q_693 : (.methodLink RL 27 yX6_askAll) ∈ GW := gw_t (List.mem_of_getElem? (i := 693) (by decide +kernel)) rfl
set_option maxRecDepth 100000 in
theorem q_694 : (.instanceMethod yX6_askAll) ∈ GW := gw_t (List.mem_of_getElem? (i := 694) (by decide +kernel)) rfl
set_option maxRecDepth 100000 in
theorem q_695 : (.selects RX6 yX6_askAll yX6_askAll) ∈ GW := gw_t (List.mem_of_getElem? (i := 695) (by decide +kernel)) rfl
set_option maxRecDepth 100000 in
theorem q_696 : (.code yX6_askAll cX6_askAll 2 (some .int)) ∈ GW := gw_t (List.mem_of_getElem? (i := 696) (by decide +kernel)) rfl
set_option maxRecDepth 100000 in
theorem q_697 : (.methodLink RX6 136 yX6_goes) ∈ GW := gw_t (List.mem_of_getElem? (i := 697) (by decide +kernel)) rfl
set_option maxRecDepth 100000 in
theorem q_699 : (.instanceMethod yX6_goes) ∈ GW := gw_t (List.mem_of_getElem? (i := 699) (by decide +kernel)) rfl
set_option maxRecDepth 100000 in
theorem q_700 : (.code yX6_goes cX6_goes 3 (some .int)) ∈ GW := gw_t (List.mem_of_getElem? (i := 700) (by decide +kernel)) rfl
set_option maxRecDepth 100000 in
theorem q_701 : (.methodLink RX6 129 yX6_reads) ∈ GW := gw_t (List.mem_of_getElem? (i := 701) (by decide +kernel)) rfl
set_option maxRecDepth 100000 in
theorem q_703 : (.instanceMethod yX6_reads) ∈ GW := gw_t (List.mem_of_getElem? (i := 703) (by decide +kernel)) rfl
set_option maxRecDepth 100000 in
theorem q_704 : (.code yX6_reads cX6_reads 1 (some .boolean)) ∈ GW := gw_t (List.mem_of_getElem? (i := 704) (by decide +kernel)) rfl
set_option maxRecDepth 100000 in
theorem q_705 : (.methodLink RX6 115 yX6_word) ∈ GW := gw_t (List.mem_of_getElem? (i := 705) (by decide +kernel)) rfl
set_option maxRecDepth 100000 in
theorem q_707 : (.instanceMethod yX6_word) ∈ GW := gw_t (List.mem_of_getElem? (i := 707) (by decide +kernel)) rfl
set_option maxRecDepth 100000 in
theorem q_708 : (.code yX6_word cX6_word 2 (some .boolean)) ∈ GW := gw_t (List.mem_of_getElem? (i := 708) (by decide +kernel)) rfl
set_option maxRecDepth 100000 in
theorem q_709 : (.methodLink RX6 109 yX6_takes) ∈ GW := gw_t (List.mem_of_getElem? (i := 709) (by decide +kernel)) rfl
set_option maxRecDepth 100000 in
theorem q_711 : (.instanceMethod yX6_takes) ∈ GW := gw_t (List.mem_of_getElem? (i := 711) (by decide +kernel)) rfl
set_option maxRecDepth 100000 in
theorem q_712 : (.code yX6_takes cX6_takes 3 (some .boolean)) ∈ GW := gw_t (List.mem_of_getElem? (i := 712) (by decide +kernel)) rfl
set_option maxRecDepth 100000 in
theorem q_713 : (.methodLink RX6 105 yX6_isAt) ∈ GW := gw_t (List.mem_of_getElem? (i := 713) (by decide +kernel)) rfl
set_option maxRecDepth 100000 in
theorem q_715 : (.instanceMethod yX6_isAt) ∈ GW := gw_t (List.mem_of_getElem? (i := 715) (by decide +kernel)) rfl
set_option maxRecDepth 100000 in
theorem q_716 : (.code yX6_isAt cX6_isAt 2 (some .boolean)) ∈ GW := gw_t (List.mem_of_getElem? (i := 716) (by decide +kernel)) rfl
set_option maxRecDepth 100000 in
theorem q_717 : (.methodLink RX6 119 yX6_isDigit) ∈ GW := gw_t (List.mem_of_getElem? (i := 717) (by decide +kernel)) rfl
set_option maxRecDepth 100000 in
theorem q_719 : (.instanceMethod yX6_isDigit) ∈ GW := gw_t (List.mem_of_getElem? (i := 719) (by decide +kernel)) rfl
set_option maxRecDepth 100000 in
theorem q_720 : (.code yX6_isDigit cX6_isDigit 3 (some .boolean)) ∈ GW := gw_t (List.mem_of_getElem? (i := 720) (by decide +kernel)) rfl
set_option maxRecDepth 100000 in
theorem q_721 : (.methodLink RX6 132 yX6_does) ∈ GW := gw_t (List.mem_of_getElem? (i := 721) (by decide +kernel)) rfl
set_option maxRecDepth 100000 in
theorem q_723 : (.instanceMethod yX6_does) ∈ GW := gw_t (List.mem_of_getElem? (i := 723) (by decide +kernel)) rfl
set_option maxRecDepth 100000 in
theorem q_724 : (.code yX6_does cX6_does 1 (some .int)) ∈ GW := gw_t (List.mem_of_getElem? (i := 724) (by decide +kernel)) rfl
set_option maxRecDepth 100000 in
theorem q_725 : (.methodLink RL 32 yX6_pin) ∈ GW := gw_t (List.mem_of_getElem? (i := 725) (by decide +kernel)) rfl
set_option maxRecDepth 100000 in
theorem q_726 : (.instanceMethod yX6_pin) ∈ GW := gw_t (List.mem_of_getElem? (i := 726) (by decide +kernel)) rfl
set_option maxRecDepth 100000 in
theorem q_727 : (.selects RX6 yX6_pin yX6_pin) ∈ GW := gw_t (List.mem_of_getElem? (i := 727) (by decide +kernel)) rfl
set_option maxRecDepth 100000 in
theorem q_728 : (.code yX6_pin cX6_pin 4 (some .int)) ∈ GW := gw_t (List.mem_of_getElem? (i := 728) (by decide +kernel)) rfl
set_option maxRecDepth 100000 in
theorem q_729 : (.methodLink RX6 140 yX6_hasPlan) ∈ GW := gw_t (List.mem_of_getElem? (i := 729) (by decide +kernel)) rfl
set_option maxRecDepth 100000 in
theorem q_731 : (.instanceMethod yX6_hasPlan) ∈ GW := gw_t (List.mem_of_getElem? (i := 731) (by decide +kernel)) rfl
set_option maxRecDepth 100000 in
theorem q_732 : (.code yX6_hasPlan cX6_hasPlan 2 (some .boolean)) ∈ GW := gw_t (List.mem_of_getElem? (i := 732) (by decide +kernel)) rfl
set_option maxRecDepth 100000 in
theorem q_733 : (.methodLink RX6 143 yX6_pinned) ∈ GW := gw_t (List.mem_of_getElem? (i := 733) (by decide +kernel)) rfl
set_option maxRecDepth 100000 in
theorem q_735 : (.instanceMethod yX6_pinned) ∈ GW := gw_t (List.mem_of_getElem? (i := 735) (by decide +kernel)) rfl
set_option maxRecDepth 100000 in
theorem q_736 : (.code yX6_pinned cX6_pinned 3 (some .int)) ∈ GW := gw_t (List.mem_of_getElem? (i := 736) (by decide +kernel)) rfl
set_option maxRecDepth 100000 in
theorem q_737 : (.methodLink RL 37 yX6_throwOut) ∈ GW := gw_t (List.mem_of_getElem? (i := 737) (by decide +kernel)) rfl
set_option maxRecDepth 100000 in
theorem q_738 : (.instanceMethod yX6_throwOut) ∈ GW := gw_t (List.mem_of_getElem? (i := 738) (by decide +kernel)) rfl
set_option maxRecDepth 100000 in
theorem q_739 : (.selects RX6 yX6_throwOut yX6_throwOut) ∈ GW := gw_t (List.mem_of_getElem? (i := 739) (by decide +kernel)) rfl
set_option maxRecDepth 100000 in
theorem q_740 : (.code yX6_throwOut cX6_throwOut 2 (some .int)) ∈ GW := gw_t (List.mem_of_getElem? (i := 740) (by decide +kernel)) rfl
set_option maxRecDepth 100000 in
theorem q_741 : (.methodLink RL 42 yX6_make) ∈ GW := gw_t (List.mem_of_getElem? (i := 741) (by decide +kernel)) rfl
set_option maxRecDepth 100000 in
theorem q_742 : (.instanceMethod yX6_make) ∈ GW := gw_t (List.mem_of_getElem? (i := 742) (by decide +kernel)) rfl
set_option maxRecDepth 100000 in
theorem q_743 : (.selects RX6 yX6_make yX6_make) ∈ GW := gw_t (List.mem_of_getElem? (i := 743) (by decide +kernel)) rfl
set_option maxRecDepth 100000 in
theorem q_744 : (.code yX6_make cX6_make 7 (some .int)) ∈ GW := gw_t (List.mem_of_getElem? (i := 744) (by decide +kernel)) rfl
set_option maxRecDepth 100000 in
theorem q_745 : (.constant RX6 146 (99999 : Int32)) ∈ GW := gw_t (List.mem_of_getElem? (i := 745) (by decide +kernel)) rfl
set_option maxRecDepth 100000 in
theorem q_746 : (.methodLink RL 46 yX6_set) ∈ GW := gw_t (List.mem_of_getElem? (i := 746) (by decide +kernel)) rfl
set_option maxRecDepth 100000 in
theorem q_747 : (.instanceMethod yX6_set) ∈ GW := gw_t (List.mem_of_getElem? (i := 747) (by decide +kernel)) rfl
set_option maxRecDepth 100000 in
theorem q_748 : (.selects RX6 yX6_set yX6_set) ∈ GW := gw_t (List.mem_of_getElem? (i := 748) (by decide +kernel)) rfl
set_option maxRecDepth 100000 in
theorem q_749 : (.code yX6_set cX6_set 4 (some .int)) ∈ GW := gw_t (List.mem_of_getElem? (i := 749) (by decide +kernel)) rfl
set_option maxRecDepth 100000 in
theorem q_750 : (.methodLink RX6 147 yX6_lowest) ∈ GW := gw_t (List.mem_of_getElem? (i := 750) (by decide +kernel)) rfl
set_option maxRecDepth 100000 in
theorem q_751 : (.static yX6_lowest) ∈ GW := gw_t (List.mem_of_getElem? (i := 751) (by decide +kernel)) rfl
set_option maxRecDepth 100000 in
theorem q_752 : (.code yX6_lowest cX6_lowest 1 (some .int)) ∈ GW := gw_t (List.mem_of_getElem? (i := 752) (by decide +kernel)) rfl
set_option maxRecDepth 100000 in
theorem q_753 : (.methodLink RX6 150 yX6_highest) ∈ GW := gw_t (List.mem_of_getElem? (i := 753) (by decide +kernel)) rfl
set_option maxRecDepth 100000 in
theorem q_754 : (.static yX6_highest) ∈ GW := gw_t (List.mem_of_getElem? (i := 754) (by decide +kernel)) rfl
set_option maxRecDepth 100000 in
theorem q_755 : (.code yX6_highest cX6_highest 1 (some .int)) ∈ GW := gw_t (List.mem_of_getElem? (i := 755) (by decide +kernel)) rfl
set_option maxRecDepth 100000 in
theorem q_756 : (.methodLink RL 51 yX6_type) ∈ GW := gw_t (List.mem_of_getElem? (i := 756) (by decide +kernel)) rfl
set_option maxRecDepth 100000 in
theorem q_757 : (.instanceMethod yX6_type) ∈ GW := gw_t (List.mem_of_getElem? (i := 757) (by decide +kernel)) rfl
set_option maxRecDepth 100000 in
theorem q_758 : (.selects RX6 yX6_type yX6_type) ∈ GW := gw_t (List.mem_of_getElem? (i := 758) (by decide +kernel)) rfl
set_option maxRecDepth 100000 in
theorem q_759 : (.code yX6_type cX6_type 2 (some .int)) ∈ GW := gw_t (List.mem_of_getElem? (i := 759) (by decide +kernel)) rfl
set_option maxRecDepth 100000 in
theorem q_760 : (.methodLink RL 55 yX6_clearText) ∈ GW := gw_t (List.mem_of_getElem? (i := 760) (by decide +kernel)) rfl
set_option maxRecDepth 100000 in
theorem q_761 : (.instanceMethod yX6_clearText) ∈ GW := gw_t (List.mem_of_getElem? (i := 761) (by decide +kernel)) rfl
set_option maxRecDepth 100000 in
theorem q_762 : (.selects RX6 yX6_clearText yX6_clearText) ∈ GW := gw_t (List.mem_of_getElem? (i := 762) (by decide +kernel)) rfl
set_option maxRecDepth 100000 in
theorem q_763 : (.code yX6_clearText cX6_clearText 2 (some .int)) ∈ GW := gw_t (List.mem_of_getElem? (i := 763) (by decide +kernel)) rfl
set_option maxRecDepth 100000 in
theorem q_764 : (.methodLink RL 59 yX6_undo) ∈ GW := gw_t (List.mem_of_getElem? (i := 764) (by decide +kernel)) rfl
set_option maxRecDepth 100000 in
theorem q_765 : (.instanceMethod yX6_undo) ∈ GW := gw_t (List.mem_of_getElem? (i := 765) (by decide +kernel)) rfl
set_option maxRecDepth 100000 in
theorem q_766 : (.selects RX6 yX6_undo yX6_undo) ∈ GW := gw_t (List.mem_of_getElem? (i := 766) (by decide +kernel)) rfl
set_option maxRecDepth 100000 in
theorem q_767 : (.code yX6_undo cX6_undo 1 (some .int)) ∈ GW := gw_t (List.mem_of_getElem? (i := 767) (by decide +kernel)) rfl
set_option maxRecDepth 100000 in
theorem q_768 : (.methodLink RL 63 yX6_keep) ∈ GW := gw_t (List.mem_of_getElem? (i := 768) (by decide +kernel)) rfl
set_option maxRecDepth 100000 in
theorem q_769 : (.instanceMethod yX6_keep) ∈ GW := gw_t (List.mem_of_getElem? (i := 769) (by decide +kernel)) rfl
set_option maxRecDepth 100000 in
theorem q_770 : (.selects RX6 yX6_keep yX6_keep) ∈ GW := gw_t (List.mem_of_getElem? (i := 770) (by decide +kernel)) rfl
set_option maxRecDepth 100000 in
theorem q_771 : (.code yX6_keep cX6_keep 1 (some .int)) ∈ GW := gw_t (List.mem_of_getElem? (i := 771) (by decide +kernel)) rfl
set_option maxRecDepth 100000 in
theorem q_772 : (.methodLink RL 67 yX6_restore) ∈ GW := gw_t (List.mem_of_getElem? (i := 772) (by decide +kernel)) rfl
set_option maxRecDepth 100000 in
theorem q_773 : (.instanceMethod yX6_restore) ∈ GW := gw_t (List.mem_of_getElem? (i := 773) (by decide +kernel)) rfl
set_option maxRecDepth 100000 in
theorem q_774 : (.selects RX6 yX6_restore yX6_restore) ∈ GW := gw_t (List.mem_of_getElem? (i := 774) (by decide +kernel)) rfl
set_option maxRecDepth 100000 in
theorem q_775 : (.code yX6_restore cX6_restore 1 (some .int)) ∈ GW := gw_t (List.mem_of_getElem? (i := 775) (by decide +kernel)) rfl
set_option maxRecDepth 100000 in
theorem q_776 : (.methodLink RL 72 yX6_cost) ∈ GW := gw_t (List.mem_of_getElem? (i := 776) (by decide +kernel)) rfl
set_option maxRecDepth 100000 in
theorem q_777 : (.instanceMethod yX6_cost) ∈ GW := gw_t (List.mem_of_getElem? (i := 777) (by decide +kernel)) rfl
set_option maxRecDepth 100000 in
theorem q_778 : (.selects RX6 yX6_cost yX6_cost) ∈ GW := gw_t (List.mem_of_getElem? (i := 778) (by decide +kernel)) rfl
set_option maxRecDepth 100000 in
theorem q_779 : (.code yX6_cost cX6_cost 4 (some .int)) ∈ GW := gw_t (List.mem_of_getElem? (i := 779) (by decide +kernel)) rfl
set_option maxRecDepth 100000 in
theorem q_780 : (.methodLink RL 76 yX6_cheapest) ∈ GW := gw_t (List.mem_of_getElem? (i := 780) (by decide +kernel)) rfl
set_option maxRecDepth 100000 in
theorem q_781 : (.instanceMethod yX6_cheapest) ∈ GW := gw_t (List.mem_of_getElem? (i := 781) (by decide +kernel)) rfl
set_option maxRecDepth 100000 in
theorem q_782 : (.selects RX6 yX6_cheapest yX6_cheapest) ∈ GW := gw_t (List.mem_of_getElem? (i := 782) (by decide +kernel)) rfl
set_option maxRecDepth 100000 in
theorem q_783 : (.code yX6_cheapest cX6_cheapest 3 (some .int)) ∈ GW := gw_t (List.mem_of_getElem? (i := 783) (by decide +kernel)) rfl
set_option maxRecDepth 100000 in
theorem q_784 : (.methodLink RL 80 yX6_plan) ∈ GW := gw_t (List.mem_of_getElem? (i := 784) (by decide +kernel)) rfl
set_option maxRecDepth 100000 in
theorem q_785 : (.instanceMethod yX6_plan) ∈ GW := gw_t (List.mem_of_getElem? (i := 785) (by decide +kernel)) rfl
set_option maxRecDepth 100000 in
theorem q_786 : (.selects RX6 yX6_plan yX6_plan) ∈ GW := gw_t (List.mem_of_getElem? (i := 786) (by decide +kernel)) rfl
set_option maxRecDepth 100000 in
theorem q_787 : (.code yX6_plan cX6_plan 4 (some .int)) ∈ GW := gw_t (List.mem_of_getElem? (i := 787) (by decide +kernel)) rfl
set_option maxRecDepth 100000 in
theorem q_788 : (.methodLink RL 84 yX6_reason) ∈ GW := gw_t (List.mem_of_getElem? (i := 788) (by decide +kernel)) rfl
set_option maxRecDepth 100000 in
theorem q_789 : (.instanceMethod yX6_reason) ∈ GW := gw_t (List.mem_of_getElem? (i := 789) (by decide +kernel)) rfl
set_option maxRecDepth 100000 in
theorem q_790 : (.selects RX6 yX6_reason yX6_reason) ∈ GW := gw_t (List.mem_of_getElem? (i := 790) (by decide +kernel)) rfl
set_option maxRecDepth 100000 in
theorem q_791 : (.code yX6_reason cX6_reason 3 (some .int)) ∈ GW := gw_t (List.mem_of_getElem? (i := 791) (by decide +kernel)) rfl
set_option maxRecDepth 100000 in
theorem q_792 : (.methodLink RL 88 yX6_ifAsked) ∈ GW := gw_t (List.mem_of_getElem? (i := 792) (by decide +kernel)) rfl
set_option maxRecDepth 100000 in
theorem q_793 : (.instanceMethod yX6_ifAsked) ∈ GW := gw_t (List.mem_of_getElem? (i := 793) (by decide +kernel)) rfl
set_option maxRecDepth 100000 in
theorem q_794 : (.selects RX6 yX6_ifAsked yX6_ifAsked) ∈ GW := gw_t (List.mem_of_getElem? (i := 794) (by decide +kernel)) rfl
set_option maxRecDepth 100000 in
theorem q_795 : (.code yX6_ifAsked cX6_ifAsked 4 (some .int)) ∈ GW := gw_t (List.mem_of_getElem? (i := 795) (by decide +kernel)) rfl
set_option maxRecDepth 100000 in
theorem q_796 : (.methodLink RX6 156 yX6_wouldAsk) ∈ GW := gw_t (List.mem_of_getElem? (i := 796) (by decide +kernel)) rfl
set_option maxRecDepth 100000 in
theorem q_798 : (.instanceMethod yX6_wouldAsk) ∈ GW := gw_t (List.mem_of_getElem? (i := 798) (by decide +kernel)) rfl
set_option maxRecDepth 100000 in
theorem q_799 : (.code yX6_wouldAsk cX6_wouldAsk 6 (some .int)) ∈ GW := gw_t (List.mem_of_getElem? (i := 799) (by decide +kernel)) rfl
set_option maxRecDepth 100000 in
theorem q_800 : (.methodLink RL 92 yX6_reach) ∈ GW := gw_t (List.mem_of_getElem? (i := 800) (by decide +kernel)) rfl
set_option maxRecDepth 100000 in
theorem q_801 : (.instanceMethod yX6_reach) ∈ GW := gw_t (List.mem_of_getElem? (i := 801) (by decide +kernel)) rfl
set_option maxRecDepth 100000 in
theorem q_802 : (.selects RX6 yX6_reach yX6_reach) ∈ GW := gw_t (List.mem_of_getElem? (i := 802) (by decide +kernel)) rfl
set_option maxRecDepth 100000 in
theorem q_803 : (.code yX6_reach cX6_reach 5 (some .int)) ∈ GW := gw_t (List.mem_of_getElem? (i := 803) (by decide +kernel)) rfl
set_option maxRecDepth 100000 in
theorem q_804 : (.methodLink RL 96 yX6_oldest) ∈ GW := gw_t (List.mem_of_getElem? (i := 804) (by decide +kernel)) rfl
set_option maxRecDepth 100000 in
theorem q_805 : (.instanceMethod yX6_oldest) ∈ GW := gw_t (List.mem_of_getElem? (i := 805) (by decide +kernel)) rfl
set_option maxRecDepth 100000 in
theorem q_806 : (.selects RX6 yX6_oldest yX6_oldest) ∈ GW := gw_t (List.mem_of_getElem? (i := 806) (by decide +kernel)) rfl
set_option maxRecDepth 100000 in
theorem q_807 : (.code yX6_oldest cX6_oldest 1 (some .int)) ∈ GW := gw_t (List.mem_of_getElem? (i := 807) (by decide +kernel)) rfl
set_option maxRecDepth 100000 in
theorem q_808 : (.methodLink RL 100 yX6_tableOf) ∈ GW := gw_t (List.mem_of_getElem? (i := 808) (by decide +kernel)) rfl
set_option maxRecDepth 100000 in
theorem q_809 : (.instanceMethod yX6_tableOf) ∈ GW := gw_t (List.mem_of_getElem? (i := 809) (by decide +kernel)) rfl
set_option maxRecDepth 100000 in
theorem q_810 : (.selects RX6 yX6_tableOf yX6_tableOf) ∈ GW := gw_t (List.mem_of_getElem? (i := 810) (by decide +kernel)) rfl
set_option maxRecDepth 100000 in
theorem q_811 : (.code yX6_tableOf cX6_tableOf 3 (some .int)) ∈ GW := gw_t (List.mem_of_getElem? (i := 811) (by decide +kernel)) rfl
set_option maxRecDepth 100000 in
theorem q_812 : (.methodLink RX6 159 yX6_keptFor) ∈ GW := gw_t (List.mem_of_getElem? (i := 812) (by decide +kernel)) rfl
set_option maxRecDepth 100000 in
theorem q_814 : (.instanceMethod yX6_keptFor) ∈ GW := gw_t (List.mem_of_getElem? (i := 814) (by decide +kernel)) rfl
set_option maxRecDepth 100000 in
theorem q_815 : (.code yX6_keptFor cX6_keptFor 2 (some .int)) ∈ GW := gw_t (List.mem_of_getElem? (i := 815) (by decide +kernel)) rfl
set_option maxRecDepth 100000 in
theorem q_816 : (.methodLink RL 104 yX6_count) ∈ GW := gw_t (List.mem_of_getElem? (i := 816) (by decide +kernel)) rfl
set_option maxRecDepth 100000 in
theorem q_817 : (.instanceMethod yX6_count) ∈ GW := gw_t (List.mem_of_getElem? (i := 817) (by decide +kernel)) rfl
set_option maxRecDepth 100000 in
theorem q_818 : (.selects RX6 yX6_count yX6_count) ∈ GW := gw_t (List.mem_of_getElem? (i := 818) (by decide +kernel)) rfl
set_option maxRecDepth 100000 in
theorem q_819 : (.code yX6_count cX6_count 2 (some .int)) ∈ GW := gw_t (List.mem_of_getElem? (i := 819) (by decide +kernel)) rfl
set_option maxRecDepth 100000 in
theorem q_820 : (.methodLink RX6 162 yX6_stale) ∈ GW := gw_t (List.mem_of_getElem? (i := 820) (by decide +kernel)) rfl
set_option maxRecDepth 100000 in
theorem q_822 : (.instanceMethod yX6_stale) ∈ GW := gw_t (List.mem_of_getElem? (i := 822) (by decide +kernel)) rfl
set_option maxRecDepth 100000 in
theorem q_823 : (.code yX6_stale cX6_stale 3 (some .int)) ∈ GW := gw_t (List.mem_of_getElem? (i := 823) (by decide +kernel)) rfl
set_option maxRecDepth 100000 in
theorem q_824 : (.fieldLink RJ0 9 "java/lang/String" "value" "[B") ∈ GW := gw_t (List.mem_of_getElem? (i := 824) (by decide +kernel)) rfl
set_option maxRecDepth 100000 in
theorem q_825 : (.fieldLink RJ0 15 "java/lang/String" "coder" "B") ∈ GW := gw_t (List.mem_of_getElem? (i := 825) (by decide +kernel)) rfl
set_option maxRecDepth 100000 in
theorem qs_0 : (.selects RX5 yX5_hasPlan yX5_hasPlan) ∈ GW := List.mem_filter.mpr ⟨List.mem_append_left _ (List.mem_of_getElem? (i := 0) (by decide +kernel)), rfl⟩
set_option maxRecDepth 100000 in
theorem qs_1 : (.selects RX6 yX6_records yX6_records) ∈ GW := List.mem_filter.mpr ⟨List.mem_append_left _ (List.mem_of_getElem? (i := 1) (by decide +kernel)), rfl⟩
set_option maxRecDepth 100000 in
theorem qs_2 : (.selects RX6 yX6_copies yX6_copies) ∈ GW := List.mem_filter.mpr ⟨List.mem_append_left _ (List.mem_of_getElem? (i := 2) (by decide +kernel)), rfl⟩
set_option maxRecDepth 100000 in
theorem qs_3 : (.selects RX6 yX6_asks yX6_asks) ∈ GW := List.mem_filter.mpr ⟨List.mem_append_left _ (List.mem_of_getElem? (i := 3) (by decide +kernel)), rfl⟩
set_option maxRecDepth 100000 in
theorem qs_4 : (.selects RX6 yX6_why yX6_why) ∈ GW := List.mem_filter.mpr ⟨List.mem_append_left _ (List.mem_of_getElem? (i := 4) (by decide +kernel)), rfl⟩
set_option maxRecDepth 100000 in
theorem qs_5 : (.selects RX6 yX6_isChanged yX6_isChanged) ∈ GW := List.mem_filter.mpr ⟨List.mem_append_left _ (List.mem_of_getElem? (i := 5) (by decide +kernel)), rfl⟩
set_option maxRecDepth 100000 in
theorem qs_6 : (.selects RX6 yX6_isOld yX6_isOld) ∈ GW := List.mem_filter.mpr ⟨List.mem_append_left _ (List.mem_of_getElem? (i := 6) (by decide +kernel)), rfl⟩
set_option maxRecDepth 100000 in
theorem qs_7 : (.selects RX6 yX6_age yX6_age) ∈ GW := List.mem_filter.mpr ⟨List.mem_append_left _ (List.mem_of_getElem? (i := 7) (by decide +kernel)), rfl⟩
set_option maxRecDepth 100000 in
theorem qs_8 : (.selects RX6 yX6_cheapestOf yX6_cheapestOf) ∈ GW := List.mem_filter.mpr ⟨List.mem_append_left _ (List.mem_of_getElem? (i := 8) (by decide +kernel)), rfl⟩
set_option maxRecDepth 100000 in
theorem qs_9 : (.selects RX6 yX6_costs yX6_costs) ∈ GW := List.mem_filter.mpr ⟨List.mem_append_left _ (List.mem_of_getElem? (i := 9) (by decide +kernel)), rfl⟩
set_option maxRecDepth 100000 in
theorem qs_10 : (.selects RX6 yX6_hasRoom yX6_hasRoom) ∈ GW := List.mem_filter.mpr ⟨List.mem_append_left _ (List.mem_of_getElem? (i := 10) (by decide +kernel)), rfl⟩
set_option maxRecDepth 100000 in
theorem qs_11 : (.selects RX6 yX6_kept yX6_kept) ∈ GW := List.mem_filter.mpr ⟨List.mem_append_left _ (List.mem_of_getElem? (i := 11) (by decide +kernel)), rfl⟩
set_option maxRecDepth 100000 in
theorem qs_12 : (.selects RX6 yX6_oldestOf yX6_oldestOf) ∈ GW := List.mem_filter.mpr ⟨List.mem_append_left _ (List.mem_of_getElem? (i := 12) (by decide +kernel)), rfl⟩
set_option maxRecDepth 100000 in
theorem qs_13 : (.selects RX6 yX6_throwsOldest yX6_throwsOldest) ∈ GW := List.mem_filter.mpr ⟨List.mem_append_left _ (List.mem_of_getElem? (i := 13) (by decide +kernel)), rfl⟩
set_option maxRecDepth 100000 in
theorem qs_14 : (.selects RX6 yX6_lays yX6_lays) ∈ GW := List.mem_filter.mpr ⟨List.mem_append_left _ (List.mem_of_getElem? (i := 14) (by decide +kernel)), rfl⟩
set_option maxRecDepth 100000 in
theorem qs_15 : (.selects RX6 yX6_goes yX6_goes) ∈ GW := List.mem_filter.mpr ⟨List.mem_append_left _ (List.mem_of_getElem? (i := 15) (by decide +kernel)), rfl⟩
set_option maxRecDepth 100000 in
theorem qs_16 : (.selects RX6 yX6_reads yX6_reads) ∈ GW := List.mem_filter.mpr ⟨List.mem_append_left _ (List.mem_of_getElem? (i := 16) (by decide +kernel)), rfl⟩
set_option maxRecDepth 100000 in
theorem qs_17 : (.selects RX6 yX6_word yX6_word) ∈ GW := List.mem_filter.mpr ⟨List.mem_append_left _ (List.mem_of_getElem? (i := 17) (by decide +kernel)), rfl⟩
set_option maxRecDepth 100000 in
theorem qs_18 : (.selects RX6 yX6_takes yX6_takes) ∈ GW := List.mem_filter.mpr ⟨List.mem_append_left _ (List.mem_of_getElem? (i := 18) (by decide +kernel)), rfl⟩
set_option maxRecDepth 100000 in
theorem qs_19 : (.selects RX6 yX6_isAt yX6_isAt) ∈ GW := List.mem_filter.mpr ⟨List.mem_append_left _ (List.mem_of_getElem? (i := 19) (by decide +kernel)), rfl⟩
set_option maxRecDepth 100000 in
theorem qs_20 : (.selects RX6 yX6_isDigit yX6_isDigit) ∈ GW := List.mem_filter.mpr ⟨List.mem_append_left _ (List.mem_of_getElem? (i := 20) (by decide +kernel)), rfl⟩
set_option maxRecDepth 100000 in
theorem qs_21 : (.selects RX6 yX6_does yX6_does) ∈ GW := List.mem_filter.mpr ⟨List.mem_append_left _ (List.mem_of_getElem? (i := 21) (by decide +kernel)), rfl⟩
set_option maxRecDepth 100000 in
theorem qs_22 : (.selects RX6 yX6_hasPlan yX6_hasPlan) ∈ GW := List.mem_filter.mpr ⟨List.mem_append_left _ (List.mem_of_getElem? (i := 22) (by decide +kernel)), rfl⟩
set_option maxRecDepth 100000 in
theorem qs_23 : (.selects RX6 yX6_pinned yX6_pinned) ∈ GW := List.mem_filter.mpr ⟨List.mem_append_left _ (List.mem_of_getElem? (i := 23) (by decide +kernel)), rfl⟩
set_option maxRecDepth 100000 in
theorem qs_24 : (.selects RX6 yX6_wouldAsk yX6_wouldAsk) ∈ GW := List.mem_filter.mpr ⟨List.mem_append_left _ (List.mem_of_getElem? (i := 24) (by decide +kernel)), rfl⟩
set_option maxRecDepth 100000 in
theorem qs_25 : (.selects RX6 yX6_keptFor yX6_keptFor) ∈ GW := List.mem_filter.mpr ⟨List.mem_append_left _ (List.mem_of_getElem? (i := 25) (by decide +kernel)), rfl⟩
set_option maxRecDepth 100000 in
theorem qs_26 : (.selects RX6 yX6_stale yX6_stale) ∈ GW := List.mem_filter.mpr ⟨List.mem_append_left _ (List.mem_of_getElem? (i := 26) (by decide +kernel)), rfl⟩
set_option maxRecDepth 100000 in
theorem inX0 : ∀ w ∈ wsX00, w ∈ GW := by decide +kernel
set_option maxRecDepth 100000 in
theorem inX1 : ∀ w ∈ wsX10, w ∈ GW := by decide +kernel
set_option maxRecDepth 100000 in
theorem inX2 : ∀ w ∈ wsX20, w ∈ GW := by decide +kernel
set_option maxRecDepth 100000 in
theorem inX3 : ∀ w ∈ wsX30, w ∈ GW := by decide +kernel
set_option maxRecDepth 100000 in
theorem inX4 : ∀ w ∈ wsX40, w ∈ GW := by decide +kernel
set_option maxRecDepth 100000 in
theorem inX5 : ∀ w ∈ wsX50, w ∈ GW := by decide +kernel
set_option maxRecDepth 100000 in
theorem inX6 : ∀ w ∈ wsX60, w ∈ GW := by decide +kernel
