def RX0 : String := "KeptPlans$History"
def TX0 : u_T := fun k => match k with
  | 0 => ("KeptPlans$History", "states", "[LKeptPlans$State;", true)
  | 1 => ("KeptPlans$History", "next", "I", false)
  | _ => ("KeptPlans$History", "size", "I", false)
def tyX0 : Nat → FieldType := fun k => match k with
  | 0 => .array (.object "KeptPlans$State")
  | 1 => .int
  | _ => .int
abbrev wsX00 : List Cond := u_ws RX0 TX0 3
theorem nmX0 : ∀ a, a < 3 → ∀ b, b < 3 → a ≠ b → (TX0 a).2.1 ≠ (TX0 b).2.1 := by decide +kernel
theorem tyX0_ok : ∀ k, k < 3 → parseFieldDescriptor (TX0 k).2.2.1 = some (tyX0 k) := by decide +kernel
abbrev cX0_init : ByteArray := prog_2_method_1_code
def yX0_init : MethodName := ⟨RX0, "<init>", "()V"⟩
abbrev cX0_record : ByteArray := prog_2_method_2_code
def yX0_record : MethodName := ⟨RX0, "record", "(LKeptPlans$State;)V"⟩
abbrev cX0_takeBack : ByteArray := prog_2_method_3_code
def yX0_takeBack : MethodName := ⟨RX0, "takeBack", "(LKeptPlans$State;)V"⟩
def RX1 : String := "KeptPlans$Plan"
def TX1 : u_T := fun k => match k with
  | 0 => ("KeptPlans$Plan", "kept", "Z", false)
  | 1 => ("KeptPlans$Plan", "pinned", "Z", false)
  | 2 => ("KeptPlans$Plan", "way", "I", false)
  | 3 => ("KeptPlans$Plan", "least", "I", false)
  | 4 => ("KeptPlans$Plan", "most", "I", false)
  | 5 => ("KeptPlans$Plan", "number", "I", false)
  | 6 => ("KeptPlans$Plan", "guess", "I", false)
  | 7 => ("KeptPlans$Plan", "rows", "I", false)
  | 8 => ("KeptPlans$Plan", "uses", "I", false)
  | 9 => ("KeptPlans$Plan", "madeAt", "I", false)
  | _ => ("KeptPlans$Plan", "usedAt", "I", false)
def tyX1 : Nat → FieldType := fun k => match k with
  | 0 => .boolean
  | 1 => .boolean
  | 2 => .int
  | 3 => .int
  | 4 => .int
  | 5 => .int
  | 6 => .int
  | 7 => .int
  | 8 => .int
  | 9 => .int
  | _ => .int
abbrev wsX10 : List Cond := u_ws RX1 TX1 11
theorem nmX1 : ∀ a, a < 11 → ∀ b, b < 11 → a ≠ b → (TX1 a).2.1 ≠ (TX1 b).2.1 := by decide +kernel
theorem tyX1_ok : ∀ k, k < 11 → parseFieldDescriptor (TX1 k).2.2.1 = some (tyX1 k) := by decide +kernel
abbrev cX1_init : ByteArray := prog_3_method_1_code
def yX1_init : MethodName := ⟨RX1, "<init>", "()V"⟩
abbrev cX1_copyFrom : ByteArray := prog_3_method_2_code
def yX1_copyFrom : MethodName := ⟨RX1, "copyFrom", "(LKeptPlans$Plan;)V"⟩
def RX2 : String := "KeptPlans$QuestionText"
def TX2 : u_T := fun k => match k with
  | 0 => ("KeptPlans$QuestionText", "signs", "[C", true)
  | 1 => ("KeptPlans$QuestionText", "length", "I", false)
  | 2 => ("KeptPlans$QuestionText", "words", "[I", true)
  | 3 => ("KeptPlans$QuestionText", "tables", "[I", true)
  | 4 => ("KeptPlans$QuestionText", "numbers", "[I", true)
  | 5 => ("KeptPlans$QuestionText", "lines", "I", false)
  | _ => ("KeptPlans$QuestionText", "at", "I", false)
def tyX2 : Nat → FieldType := fun k => match k with
  | 0 => .array .char
  | 1 => .int
  | 2 => .array .int
  | 3 => .array .int
  | 4 => .array .int
  | 5 => .int
  | _ => .int
abbrev wsX20 : List Cond := u_ws RX2 TX2 7
theorem nmX2 : ∀ a, a < 7 → ∀ b, b < 7 → a ≠ b → (TX2 a).2.1 ≠ (TX2 b).2.1 := by decide +kernel
theorem tyX2_ok : ∀ k, k < 7 → parseFieldDescriptor (TX2 k).2.2.1 = some (tyX2 k) := by decide +kernel
abbrev cX2_init : ByteArray := prog_4_method_1_code
def yX2_init : MethodName := ⟨RX2, "<init>", "()V"⟩
abbrev cX2_read : ByteArray := prog_4_method_2_code
def yX2_read : MethodName := ⟨RX2, "read", "()I"⟩
abbrev cX2_readLine : ByteArray := prog_4_method_3_code
def yX2_readLine : MethodName := ⟨RX2, "readLine", "(I)Z"⟩
abbrev cX2_readWord : ByteArray := prog_4_method_4_code
def yX2_readWord : MethodName := ⟨RX2, "readWord", "()I"⟩
abbrev cX2_readKeyOrKeys : ByteArray := prog_4_method_5_code
def yX2_readKeyOrKeys : MethodName := ⟨RX2, "readKeyOrKeys", "()I"⟩
abbrev cX2_readNumber : ByteArray := prog_4_method_6_code
def yX2_readNumber : MethodName := ⟨RX2, "readNumber", "(II)I"⟩
abbrev cX2_pass : ByteArray := prog_4_method_7_code
def yX2_pass : MethodName := ⟨RX2, "pass", "(Ljava/lang/String;)Z"⟩
abbrev cX2_sign : ByteArray := prog_4_method_8_code
def yX2_sign : MethodName := ⟨RX2, "sign", "()I"⟩
abbrev cX2_digit : ByteArray := prog_4_method_9_code
def yX2_digit : MethodName := ⟨RX2, "digit", "()I"⟩
def RX3 : String := "KeptPlans$State"
def TX3 : u_T := fun k => match k with
  | 0 => ("KeptPlans$State", "tables", "[LKeptPlans$Table;", true)
  | 1 => ("KeptPlans$State", "plans", "[LKeptPlans$Plan;", true)
  | 2 => ("KeptPlans$State", "settings", "[I", true)
  | 3 => ("KeptPlans$State", "questions", "I", false)
  | 4 => ("KeptPlans$State", "hits", "I", false)
  | 5 => ("KeptPlans$State", "misses", "I", false)
  | 6 => ("KeptPlans$State", "spent", "I", false)
  | 7 => ("KeptPlans$State", "spentLooking", "I", false)
  | 8 => ("KeptPlans$State", "turnedBad", "I", false)
  | _ => ("KeptPlans$State", "crowdedOut", "I", false)
def tyX3 : Nat → FieldType := fun k => match k with
  | 0 => .array (.object "KeptPlans$Table")
  | 1 => .array (.object "KeptPlans$Plan")
  | 2 => .array .int
  | 3 => .int
  | 4 => .int
  | 5 => .int
  | 6 => .int
  | 7 => .int
  | 8 => .int
  | _ => .int
abbrev wsX30 : List Cond := u_ws RX3 TX3 10
theorem nmX3 : ∀ a, a < 10 → ∀ b, b < 10 → a ≠ b → (TX3 a).2.1 ≠ (TX3 b).2.1 := by decide +kernel
theorem tyX3_ok : ∀ k, k < 10 → parseFieldDescriptor (TX3 k).2.2.1 = some (tyX3 k) := by decide +kernel
abbrev cX3_init : ByteArray := prog_5_method_1_code
def yX3_init : MethodName := ⟨RX3, "<init>", "()V"⟩
abbrev cX3_copyFrom : ByteArray := prog_5_method_2_code
def yX3_copyFrom : MethodName := ⟨RX3, "copyFrom", "(LKeptPlans$State;)V"⟩
abbrev cX3_resize : ByteArray := prog_5_method_3_code
def yX3_resize : MethodName := ⟨RX3, "resize", "(IZI)V"⟩
abbrev cX3_tableUnder : ByteArray := prog_5_method_4_code
def yX3_tableUnder : MethodName := ⟨RX3, "tableUnder", "(I)LKeptPlans$Table;"⟩
abbrev cX3_priceBy : ByteArray := prog_5_method_5_code
def yX3_priceBy : MethodName := ⟨RX3, "priceBy", "(III)I"⟩
abbrev cX3_rowsMet : ByteArray := prog_5_method_6_code
def yX3_rowsMet : MethodName := ⟨RX3, "rowsMet", "(II)I"⟩
abbrev cX3_cheapestWay : ByteArray := prog_5_method_7_code
def yX3_cheapestWay : MethodName := ⟨RX3, "cheapestWay", "(II)I"⟩
abbrev cX3_rowsChangedTooMuch : ByteArray := prog_5_method_8_code
def yX3_rowsChangedTooMuch : MethodName := ⟨RX3, "rowsChangedTooMuch", "(I)Z"⟩
abbrev cX3_isTooOld : ByteArray := prog_5_method_9_code
def yX3_isTooOld : MethodName := ⟨RX3, "isTooOld", "(I)Z"⟩
abbrev cX3_isStale : ByteArray := prog_5_method_10_code
def yX3_isStale : MethodName := ⟨RX3, "isStale", "(I)Z"⟩
abbrev cX3_isTooDear : ByteArray := prog_5_method_11_code
def yX3_isTooDear : MethodName := ⟨RX3, "isTooDear", "(II)Z"⟩
abbrev cX3_whyNotUsed : ByteArray := prog_5_method_12_code
def yX3_whyNotUsed : MethodName := ⟨RX3, "whyNotUsed", "(II)I"⟩
abbrev cX3_answer : ByteArray := prog_5_method_13_code
def yX3_answer : MethodName := ⟨RX3, "answer", "(II)I"⟩
abbrev cX3_answerByPlan : ByteArray := prog_5_method_14_code
def yX3_answerByPlan : MethodName := ⟨RX3, "answerByPlan", "(II)I"⟩
abbrev cX3_answerByLooking : ByteArray := prog_5_method_15_code
def yX3_answerByLooking : MethodName := ⟨RX3, "answerByLooking", "(II)I"⟩
abbrev cX3_place : ByteArray := prog_5_method_16_code
def yX3_place : MethodName := ⟨RX3, "place", "(IIIII)V"⟩
abbrev cX3_couldKeep : ByteArray := prog_5_method_17_code
def yX3_couldKeep : MethodName := ⟨RX3, "couldKeep", "(I)Z"⟩
abbrev cX3_lacksRoomFor : ByteArray := prog_5_method_18_code
def yX3_lacksRoomFor : MethodName := ⟨RX3, "lacksRoomFor", "(I)Z"⟩
abbrev cX3_firstCrowdedOutBy : ByteArray := prog_5_method_19_code
def yX3_firstCrowdedOutBy : MethodName := ⟨RX3, "firstCrowdedOutBy", "(I)I"⟩
abbrev cX3_makeRoomFor : ByteArray := prog_5_method_20_code
def yX3_makeRoomFor : MethodName := ⟨RX3, "makeRoomFor", "(I)V"⟩
abbrev cX3_crowdOutDownTo : ByteArray := prog_5_method_21_code
def yX3_crowdOutDownTo : MethodName := ⟨RX3, "crowdOutDownTo", "(I)V"⟩
abbrev cX3_oldestUnpinned : ByteArray := prog_5_method_22_code
def yX3_oldestUnpinned : MethodName := ⟨RX3, "oldestUnpinned", "()I"⟩
abbrev cX3_keptPlansOf : ByteArray := prog_5_method_23_code
def yX3_keptPlansOf : MethodName := ⟨RX3, "keptPlansOf", "(I)I"⟩
abbrev cX3_keptPlans : ByteArray := prog_5_method_24_code
def yX3_keptPlans : MethodName := ⟨RX3, "keptPlans", "()I"⟩
abbrev cX3_pinnedPlans : ByteArray := prog_5_method_25_code
def yX3_pinnedPlans : MethodName := ⟨RX3, "pinnedPlans", "()I"⟩
abbrev cX3_stalePlans : ByteArray := prog_5_method_26_code
def yX3_stalePlans : MethodName := ⟨RX3, "stalePlans", "()I"⟩
def RX4 : String := "KeptPlans$Table"
def TX4 : u_T := fun k => match k with
  | 0 => ("KeptPlans$Table", "rows", "I", false)
  | 1 => ("KeptPlans$Table", "keys", "I", false)
  | 2 => ("KeptPlans$Table", "questions", "I", false)
  | _ => ("KeptPlans$Table", "spent", "I", false)
def tyX4 : Nat → FieldType := fun k => match k with
  | 0 => .int
  | 1 => .int
  | 2 => .int
  | _ => .int
abbrev wsX40 : List Cond := u_ws RX4 TX4 4
theorem nmX4 : ∀ a, a < 4 → ∀ b, b < 4 → a ≠ b → (TX4 a).2.1 ≠ (TX4 b).2.1 := by decide +kernel
theorem tyX4_ok : ∀ k, k < 4 → parseFieldDescriptor (TX4 k).2.2.1 = some (tyX4 k) := by decide +kernel
abbrev cX4_init : ByteArray := prog_6_method_1_code
def yX4_init : MethodName := ⟨RX4, "<init>", "()V"⟩
abbrev cX4_copyFrom : ByteArray := prog_6_method_2_code
def yX4_copyFrom : MethodName := ⟨RX4, "copyFrom", "(LKeptPlans$Table;)V"⟩
def RX5 : String := "KeptPlans"
def TX5 : u_T := fun k => match k with
  | 0 => ("KeptPlans", "now", "LKeptPlans$State;", true)
  | 1 => ("KeptPlans", "snapshot", "LKeptPlans$State;", true)
  | 2 => ("KeptPlans", "history", "LKeptPlans$History;", true)
  | 3 => ("KeptPlans", "text", "LKeptPlans$QuestionText;", true)
  | _ => ("KeptPlans", "hasSnapshot", "Z", false)
def tyX5 : Nat → FieldType := fun k => match k with
  | 0 => .object "KeptPlans$State"
  | 1 => .object "KeptPlans$State"
  | 2 => .object "KeptPlans$History"
  | 3 => .object "KeptPlans$QuestionText"
  | _ => .boolean
abbrev wsX50 : List Cond := u_ws RX5 TX5 5
theorem nmX5 : ∀ a, a < 5 → ∀ b, b < 5 → a ≠ b → (TX5 a).2.1 ≠ (TX5 b).2.1 := by decide +kernel
theorem tyX5_ok : ∀ k, k < 5 → parseFieldDescriptor (TX5 k).2.2.1 = some (tyX5 k) := by decide +kernel
abbrev cX5_init : ByteArray := prog_1_method_1_code
def yX5_init : MethodName := ⟨RX5, "<init>", "()V"⟩
abbrev cX5_table : ByteArray := prog_1_method_2_code
def yX5_table : MethodName := ⟨RX5, "table", "(IZI)I"⟩
abbrev cX5_ask : ByteArray := prog_1_method_3_code
def yX5_ask : MethodName := ⟨RX5, "ask", "(II)I"⟩
abbrev cX5_askAll : ByteArray := prog_1_method_4_code
def yX5_askAll : MethodName := ⟨RX5, "askAll", "()I"⟩
abbrev cX5_pin : ByteArray := prog_1_method_5_code
def yX5_pin : MethodName := ⟨RX5, "pin", "(IZ)I"⟩
abbrev cX5_throwOut : ByteArray := prog_1_method_6_code
def yX5_throwOut : MethodName := ⟨RX5, "throwOut", "(I)I"⟩
abbrev cX5_make : ByteArray := prog_1_method_7_code
def yX5_make : MethodName := ⟨RX5, "make", "(IIIII)I"⟩
abbrev cX5_set : ByteArray := prog_1_method_8_code
def yX5_set : MethodName := ⟨RX5, "set", "(II)I"⟩
abbrev cX5_undo : ByteArray := prog_1_method_11_code
def yX5_undo : MethodName := ⟨RX5, "undo", "()I"⟩
abbrev cX5_restore : ByteArray := prog_1_method_13_code
def yX5_restore : MethodName := ⟨RX5, "restore", "()I"⟩
abbrev cX5_cost : ByteArray := prog_1_method_14_code
def yX5_cost : MethodName := ⟨RX5, "cost", "(III)I"⟩
abbrev cX5_cheapest : ByteArray := prog_1_method_15_code
def yX5_cheapest : MethodName := ⟨RX5, "cheapest", "(II)I"⟩
abbrev cX5_plan : ByteArray := prog_1_method_16_code
def yX5_plan : MethodName := ⟨RX5, "plan", "(II)I"⟩
abbrev cX5_reason : ByteArray := prog_1_method_17_code
def yX5_reason : MethodName := ⟨RX5, "reason", "(II)I"⟩
abbrev cX5_ifAsked : ByteArray := prog_1_method_18_code
def yX5_ifAsked : MethodName := ⟨RX5, "ifAsked", "(III)I"⟩
abbrev cX5_reach : ByteArray := prog_1_method_19_code
def yX5_reach : MethodName := ⟨RX5, "reach", "(II)I"⟩
abbrev cX5_oldest : ByteArray := prog_1_method_20_code
def yX5_oldest : MethodName := ⟨RX5, "oldest", "()I"⟩
abbrev cX5_tableOf : ByteArray := prog_1_method_21_code
def yX5_tableOf : MethodName := ⟨RX5, "tableOf", "(II)I"⟩
abbrev cX5_count : ByteArray := prog_1_method_22_code
def yX5_count : MethodName := ⟨RX5, "count", "(I)I"⟩
abbrev cX5_isTable : ByteArray := prog_1_method_23_code
def yX5_isTable : MethodName := ⟨RX5, "isTable", "(I)Z"⟩
abbrev cX5_isShape : ByteArray := prog_1_method_24_code
def yX5_isShape : MethodName := ⟨RX5, "isShape", "(I)Z"⟩
abbrev cX5_isWay : ByteArray := prog_1_method_25_code
def yX5_isWay : MethodName := ⟨RX5, "isWay", "(I)Z"⟩
abbrev cX5_hasPlan : ByteArray := prog_1_method_26_code
def yX5_hasPlan : MethodName := ⟨RX5, "hasPlan", "(I)Z"⟩
abbrev cX5_leastNumberOf : ByteArray := prog_1_method_27_code
def yX5_leastNumberOf : MethodName := ⟨RX5, "leastNumberOf", "(I)I"⟩
abbrev cX5_isNumberOf : ByteArray := prog_1_method_28_code
def yX5_isNumberOf : MethodName := ⟨RX5, "isNumberOf", "(II)Z"⟩
abbrev cX5_bitsOf : ByteArray := prog_1_method_29_code
def yX5_bitsOf : MethodName := ⟨RX5, "bitsOf", "(I)I"⟩
abbrev cX5_quotient : ByteArray := prog_1_method_30_code
def yX5_quotient : MethodName := ⟨RX5, "quotient", "(II)I"⟩
def RX6 : String := "KeptPlansModel"
def TX6 : u_T := fun k => match k with
  | _ => ("", "", "", false)
def tyX6 : Nat → FieldType := fun k => match k with
  | _ => .int
abbrev wsX60 : List Cond := u_ws RX6 TX6 0
theorem nmX6 : ∀ a, a < 0 → ∀ b, b < 0 → a ≠ b → (TX6 a).2.1 ≠ (TX6 b).2.1 := by decide +kernel
theorem tyX6_ok : ∀ k, k < 0 → parseFieldDescriptor (TX6 k).2.2.1 = some (tyX6 k) := by decide +kernel
def RJ9 : String := "java/lang/Math"
def TJ9 : u_T := fun k => match k with
  | _ => ("", "", "", false)
def tyJ9 : Nat → FieldType := fun k => match k with
  | _ => .int
abbrev wsJ90 : List Cond := u_ws RJ9 TJ9 0
theorem nmJ9 : ∀ a, a < 0 → ∀ b, b < 0 → a ≠ b → (TJ9 a).2.1 ≠ (TJ9 b).2.1 := by decide +kernel
theorem tyJ9_ok : ∀ k, k < 0 → parseFieldDescriptor (TJ9 k).2.2.1 = some (tyJ9 k) := by decide +kernel
abbrev cJ9_abs_0f7a4 : ByteArray := prog_9_method_59_code
def yJ9_abs_0f7a4 : MethodName := ⟨RJ9, "abs", "(I)I"⟩
abbrev cJ9_min_7cf53 : ByteArray := prog_9_method_69_code
def yJ9_min_7cf53 : MethodName := ⟨RJ9, "min", "(II)I"⟩
def RJ0 : String := "java/lang/String"
def TJ0 : u_T := fun k => match k with
  | _ => ("", "", "", false)
def tyJ0 : Nat → FieldType := fun k => match k with
  | _ => .int
abbrev wsJ00 : List Cond := u_ws RJ0 TJ0 0
theorem nmJ0 : ∀ a, a < 0 → ∀ b, b < 0 → a ≠ b → (TJ0 a).2.1 ≠ (TJ0 b).2.1 := by decide +kernel
theorem tyJ0_ok : ∀ k, k < 0 → parseFieldDescriptor (TJ0 k).2.2.1 = some (tyJ0 k) := by decide +kernel
abbrev cJ0_length_8abf5 : ByteArray := prog_10_method_54_code
def yJ0_length_8abf5 : MethodName := ⟨RJ0, "length", "()I"⟩
abbrev cJ0_charAt_5068e : ByteArray := prog_10_method_56_code
def yJ0_charAt_5068e : MethodName := ⟨RJ0, "charAt", "(I)C"⟩
abbrev cJ0_coder_7d493 : ByteArray := prog_10_method_152_code
def yJ0_coder_7d493 : MethodName := ⟨RJ0, "coder", "()B"⟩
abbrev cJ0_isLatin1_aae02 : ByteArray := prog_10_method_154_code
def yJ0_isLatin1_aae02 : MethodName := ⟨RJ0, "isLatin1", "()Z"⟩
abbrev cJ0_checkIndex_df160 : ByteArray := prog_10_method_155_code
def yJ0_checkIndex_df160 : MethodName := ⟨RJ0, "checkIndex", "(II)V"⟩
def RJ1 : String := "java/lang/StringLatin1"
def TJ1 : u_T := fun k => match k with
  | _ => ("", "", "", false)
def tyJ1 : Nat → FieldType := fun k => match k with
  | _ => .int
abbrev wsJ10 : List Cond := u_ws RJ1 TJ1 0
theorem nmJ1 : ∀ a, a < 0 → ∀ b, b < 0 → a ≠ b → (TJ1 a).2.1 ≠ (TJ1 b).2.1 := by decide +kernel
theorem tyJ1_ok : ∀ k, k < 0 → parseFieldDescriptor (TJ1 k).2.2.1 = some (tyJ1 k) := by decide +kernel
abbrev cJ1_charAt_3b067 : ByteArray := prog_11_method_2_code
def yJ1_charAt_3b067 : MethodName := ⟨RJ1, "charAt", "([BI)C"⟩
def RJ2 : String := "java/lang/StringUTF16"
def TJ2 : u_T := fun k => match k with
  | _ => ("", "", "", false)
def tyJ2 : Nat → FieldType := fun k => match k with
  | _ => .int
abbrev wsJ20 : List Cond := u_ws RJ2 TJ2 0
theorem nmJ2 : ∀ a, a < 0 → ∀ b, b < 0 → a ≠ b → (TJ2 a).2.1 ≠ (TJ2 b).2.1 := by decide +kernel
theorem tyJ2_ok : ∀ k, k < 0 → parseFieldDescriptor (TJ2 k).2.2.1 = some (tyJ2 k) := by decide +kernel
abbrev cJ2_getChar_3b067 : ByteArray := prog_12_method_5_code
def yJ2_getChar_3b067 : MethodName := ⟨RJ2, "getChar", "([BI)C"⟩
abbrev cJ2_length_9d52b : ByteArray := prog_12_method_6_code
def yJ2_length_9d52b : MethodName := ⟨RJ2, "length", "([B)I"⟩
abbrev cJ2_charAt_3b067 : ByteArray := prog_12_method_83_code
def yJ2_charAt_3b067 : MethodName := ⟨RJ2, "charAt", "([BI)C"⟩
abbrev cJ2_checkIndex_2214a : ByteArray := prog_12_method_91_code
def yJ2_checkIndex_2214a : MethodName := ⟨RJ2, "checkIndex", "(I[B)V"⟩
def RJ3 : String := "jdk/internal/util/Preconditions"
def TJ3 : u_T := fun k => match k with
  | _ => ("", "", "", false)
def tyJ3 : Nat → FieldType := fun k => match k with
  | _ => .int
abbrev wsJ30 : List Cond := u_ws RJ3 TJ3 0
theorem nmJ3 : ∀ a, a < 0 → ∀ b, b < 0 → a ≠ b → (TJ3 a).2.1 ≠ (TJ3 b).2.1 := by decide +kernel
theorem tyJ3_ok : ∀ k, k < 0 → parseFieldDescriptor (TJ3 k).2.2.1 = some (tyJ3 k) := by decide +kernel
abbrev cJ3_checkIndex_8e157 : ByteArray := prog_13_method_11_code
def yJ3_checkIndex_8e157 : MethodName := ⟨RJ3, "checkIndex", "(IILjava/util/function/BiFunction;)I"⟩
def RL : String := "KeptPlansLaw"
abbrev cL_cell : ByteArray := method_2_code
def yL_cell : MethodName := ⟨RL, "cell", "([II)I"⟩
abbrev cL_acts : ByteArray := method_3_code
def yL_acts : MethodName := ⟨RL, "acts", "(LKeptPlans;I)I"⟩
abbrev cL_hangs : ByteArray := method_4_code
def yL_hangs : MethodName := ⟨RL, "hangs", "(LKeptPlans;I)Z"⟩
abbrev cL_ways : ByteArray := method_5_code
def yL_ways : MethodName := ⟨RL, "ways", "(LKeptPlans;II)Z"⟩
abbrev cL_law : ByteArray := code
def yL_law : MethodName := ⟨RL, "law", "([I)Z"⟩
abbrev vwCl : List vw_C := [(RX0, TX0, 3), (RX1, TX1, 11), (RX2, TX2, 7), (RX3, TX3, 10), (RX4, TX4, 4), (RX5, TX5, 5)]
def GW : List Cond := lw_tbl.filter goodWord
theorem gw_good : ∀ w ∈ GW, goodWord w = true := fun _ h => (List.mem_filter.mp h).2
theorem gw_t {w : Cond} (h : w ∈ tables_1) (g : goodWord w = true) : w ∈ GW := List.mem_filter.mpr ⟨List.mem_append_right _ h, g⟩
set_option maxRecDepth 100000 in
theorem q_0 : (.initialized RL) ∈ GW := gw_t (List.mem_of_getElem? (i := 0) (by decide +kernel)) rfl
set_option maxRecDepth 100000 in
theorem q_1 : (.initialized RX5) ∈ GW := gw_t (List.mem_of_getElem? (i := 1) (by decide +kernel)) rfl
set_option maxRecDepth 100000 in
theorem q_2 : (.initialized RX3) ∈ GW := gw_t (List.mem_of_getElem? (i := 2) (by decide +kernel)) rfl
set_option maxRecDepth 100000 in
theorem q_3 : (.initialized RX4) ∈ GW := gw_t (List.mem_of_getElem? (i := 3) (by decide +kernel)) rfl
set_option maxRecDepth 100000 in
theorem q_4 : (.initialized RX1) ∈ GW := gw_t (List.mem_of_getElem? (i := 4) (by decide +kernel)) rfl
set_option maxRecDepth 100000 in
theorem q_5 : (.initialized RX0) ∈ GW := gw_t (List.mem_of_getElem? (i := 5) (by decide +kernel)) rfl
set_option maxRecDepth 100000 in
theorem q_6 : (.initialized RX2) ∈ GW := gw_t (List.mem_of_getElem? (i := 6) (by decide +kernel)) rfl
set_option maxRecDepth 100000 in
theorem q_7 : (.initialized RJ9) ∈ GW := gw_t (List.mem_of_getElem? (i := 7) (by decide +kernel)) rfl
set_option maxRecDepth 100000 in
theorem q_8 : (.initialized RJ0) ∈ GW := gw_t (List.mem_of_getElem? (i := 8) (by decide +kernel)) rfl
set_option maxRecDepth 100000 in
theorem q_9 : (.initialized RJ1) ∈ GW := gw_t (List.mem_of_getElem? (i := 9) (by decide +kernel)) rfl
set_option maxRecDepth 100000 in
theorem q_10 : (.initialized RJ3) ∈ GW := gw_t (List.mem_of_getElem? (i := 10) (by decide +kernel)) rfl
set_option maxRecDepth 100000 in
theorem q_11 : (.initialized RJ2) ∈ GW := gw_t (List.mem_of_getElem? (i := 11) (by decide +kernel)) rfl
set_option maxRecDepth 100000 in
theorem q_12 : (.classLink RL 10 "KeptPlans") ∈ GW := gw_t (List.mem_of_getElem? (i := 12) (by decide +kernel)) rfl
set_option maxRecDepth 100000 in
theorem q_13 : (.instantiable RX5 5) ∈ GW := gw_t (List.mem_of_getElem? (i := 13) (by decide +kernel)) rfl
set_option maxRecDepth 100000 in
theorem q_14 : (.methodLink RL 60 yX5_init) ∈ GW := gw_t (List.mem_of_getElem? (i := 14) (by decide +kernel)) rfl
set_option maxRecDepth 100000 in
theorem q_15 : (.instanceMethod yX5_init) ∈ GW := gw_t (List.mem_of_getElem? (i := 15) (by decide +kernel)) rfl
set_option maxRecDepth 100000 in
theorem q_16 : (.code yX5_init cX5_init 1 none) ∈ GW := gw_t (List.mem_of_getElem? (i := 16) (by decide +kernel)) rfl
set_option maxRecDepth 100000 in
theorem q_17 : (.methodLink RX5 1 objectInit) ∈ GW := gw_t (List.mem_of_getElem? (i := 17) (by decide +kernel)) rfl
set_option maxRecDepth 100000 in
theorem q_18 : (.instanceMethod objectInit) ∈ GW := gw_t (List.mem_of_getElem? (i := 18) (by decide +kernel)) rfl
set_option maxRecDepth 100000 in
theorem q_19 : (.code objectInit object_method_1_code 1 none) ∈ GW := gw_t (List.mem_of_getElem? (i := 19) (by decide +kernel)) rfl
set_option maxRecDepth 100000 in
theorem q_20 : (.classLink RX5 7 "KeptPlans$State") ∈ GW := gw_t (List.mem_of_getElem? (i := 20) (by decide +kernel)) rfl
set_option maxRecDepth 100000 in
theorem q_21 : (.instantiable RX3 10) ∈ GW := gw_t (List.mem_of_getElem? (i := 21) (by decide +kernel)) rfl
set_option maxRecDepth 100000 in
theorem q_22 : (.methodLink RX5 9 yX3_init) ∈ GW := gw_t (List.mem_of_getElem? (i := 22) (by decide +kernel)) rfl
set_option maxRecDepth 100000 in
theorem q_23 : (.instanceMethod yX3_init) ∈ GW := gw_t (List.mem_of_getElem? (i := 23) (by decide +kernel)) rfl
set_option maxRecDepth 100000 in
theorem q_24 : (.code yX3_init cX3_init 2 none) ∈ GW := gw_t (List.mem_of_getElem? (i := 24) (by decide +kernel)) rfl
set_option maxRecDepth 100000 in
theorem q_25 : (.methodLink RX3 3 objectInit) ∈ GW := gw_t (List.mem_of_getElem? (i := 25) (by decide +kernel)) rfl
set_option maxRecDepth 100000 in
theorem q_26 : (.classLink RX3 9 "KeptPlans$Table") ∈ GW := gw_t (List.mem_of_getElem? (i := 26) (by decide +kernel)) rfl
set_option maxRecDepth 100000 in
theorem q_28 : (.classLink RX3 17 "KeptPlans$Plan") ∈ GW := gw_t (List.mem_of_getElem? (i := 28) (by decide +kernel)) rfl
set_option maxRecDepth 100000 in
theorem q_30 : (.instantiable RX4 4) ∈ GW := gw_t (List.mem_of_getElem? (i := 30) (by decide +kernel)) rfl
set_option maxRecDepth 100000 in
theorem q_31 : (.methodLink RX3 27 yX4_init) ∈ GW := gw_t (List.mem_of_getElem? (i := 31) (by decide +kernel)) rfl
set_option maxRecDepth 100000 in
theorem q_32 : (.instanceMethod yX4_init) ∈ GW := gw_t (List.mem_of_getElem? (i := 32) (by decide +kernel)) rfl
set_option maxRecDepth 100000 in
theorem q_33 : (.code yX4_init cX4_init 1 none) ∈ GW := gw_t (List.mem_of_getElem? (i := 33) (by decide +kernel)) rfl
set_option maxRecDepth 100000 in
theorem q_34 : (.methodLink RX4 1 objectInit) ∈ GW := gw_t (List.mem_of_getElem? (i := 34) (by decide +kernel)) rfl
set_option maxRecDepth 100000 in
theorem q_35 : (.fieldLink RX4 7 "KeptPlans$Table" "rows" "I") ∈ GW := gw_t (List.mem_of_getElem? (i := 35) (by decide +kernel)) rfl
set_option maxRecDepth 100000 in
theorem q_36 : (.fieldLink RX5 51 "KeptPlans$Table" "rows" "I") ∈ GW := gw_t (List.mem_of_getElem? (i := 36) (by decide +kernel)) rfl
set_option maxRecDepth 100000 in
theorem q_37 : (.fieldLink RX3 61 "KeptPlans$Table" "rows" "I") ∈ GW := gw_t (List.mem_of_getElem? (i := 37) (by decide +kernel)) rfl
set_option maxRecDepth 100000 in
theorem q_38 : (.fieldLink RX4 13 "KeptPlans$Table" "keys" "I") ∈ GW := gw_t (List.mem_of_getElem? (i := 38) (by decide +kernel)) rfl
set_option maxRecDepth 100000 in
theorem q_39 : (.fieldLink RX5 45 "KeptPlans$Table" "keys" "I") ∈ GW := gw_t (List.mem_of_getElem? (i := 39) (by decide +kernel)) rfl
set_option maxRecDepth 100000 in
theorem q_40 : (.fieldLink RX3 58 "KeptPlans$Table" "keys" "I") ∈ GW := gw_t (List.mem_of_getElem? (i := 40) (by decide +kernel)) rfl
set_option maxRecDepth 100000 in
theorem q_41 : (.fieldLink RX4 16 "KeptPlans$Table" "questions" "I") ∈ GW := gw_t (List.mem_of_getElem? (i := 41) (by decide +kernel)) rfl
set_option maxRecDepth 100000 in
theorem q_42 : (.fieldLink RX3 125 "KeptPlans$Table" "questions" "I") ∈ GW := gw_t (List.mem_of_getElem? (i := 42) (by decide +kernel)) rfl
set_option maxRecDepth 100000 in
theorem q_43 : (.fieldLink RX5 210 "KeptPlans$Table" "questions" "I") ∈ GW := gw_t (List.mem_of_getElem? (i := 43) (by decide +kernel)) rfl
set_option maxRecDepth 100000 in
theorem q_44 : (.fieldLink RX4 19 "KeptPlans$Table" "spent" "I") ∈ GW := gw_t (List.mem_of_getElem? (i := 44) (by decide +kernel)) rfl
set_option maxRecDepth 100000 in
theorem q_45 : (.fieldLink RX3 126 "KeptPlans$Table" "spent" "I") ∈ GW := gw_t (List.mem_of_getElem? (i := 45) (by decide +kernel)) rfl
set_option maxRecDepth 100000 in
theorem q_46 : (.fieldLink RX5 211 "KeptPlans$Table" "spent" "I") ∈ GW := gw_t (List.mem_of_getElem? (i := 46) (by decide +kernel)) rfl
set_option maxRecDepth 100000 in
theorem q_56 : (.arrayClass .int) ∈ GW := gw_t (List.mem_of_getElem? (i := 56) (by decide +kernel)) rfl
set_option maxRecDepth 100000 in
theorem q_57 : (.instantiable RX1 11) ∈ GW := gw_t (List.mem_of_getElem? (i := 57) (by decide +kernel)) rfl
set_option maxRecDepth 100000 in
theorem q_59 : (.instanceMethod yX1_init) ∈ GW := gw_t (List.mem_of_getElem? (i := 59) (by decide +kernel)) rfl
set_option maxRecDepth 100000 in
theorem q_60 : (.code yX1_init cX1_init 1 none) ∈ GW := gw_t (List.mem_of_getElem? (i := 60) (by decide +kernel)) rfl
set_option maxRecDepth 100000 in
theorem q_61 : (.methodLink RX1 1 objectInit) ∈ GW := gw_t (List.mem_of_getElem? (i := 61) (by decide +kernel)) rfl
set_option maxRecDepth 100000 in
theorem q_62 : (.fieldLink RX1 7 "KeptPlans$Plan" "kept" "Z") ∈ GW := gw_t (List.mem_of_getElem? (i := 62) (by decide +kernel)) rfl
set_option maxRecDepth 100000 in
theorem q_63 : (.fieldLink RX5 104 "KeptPlans$Plan" "kept" "Z") ∈ GW := gw_t (List.mem_of_getElem? (i := 63) (by decide +kernel)) rfl
set_option maxRecDepth 100000 in
theorem q_64 : (.fieldLink RX3 106 "KeptPlans$Plan" "kept" "Z") ∈ GW := gw_t (List.mem_of_getElem? (i := 64) (by decide +kernel)) rfl
set_option maxRecDepth 100000 in
theorem q_65 : (.fieldLink RX1 13 "KeptPlans$Plan" "pinned" "Z") ∈ GW := gw_t (List.mem_of_getElem? (i := 65) (by decide +kernel)) rfl
set_option maxRecDepth 100000 in
theorem q_66 : (.fieldLink RX5 96 "KeptPlans$Plan" "pinned" "Z") ∈ GW := gw_t (List.mem_of_getElem? (i := 66) (by decide +kernel)) rfl
set_option maxRecDepth 100000 in
theorem q_67 : (.fieldLink RX3 154 "KeptPlans$Plan" "pinned" "Z") ∈ GW := gw_t (List.mem_of_getElem? (i := 67) (by decide +kernel)) rfl
set_option maxRecDepth 100000 in
theorem q_68 : (.fieldLink RX1 16 "KeptPlans$Plan" "way" "I") ∈ GW := gw_t (List.mem_of_getElem? (i := 68) (by decide +kernel)) rfl
set_option maxRecDepth 100000 in
theorem q_69 : (.fieldLink RX3 127 "KeptPlans$Plan" "way" "I") ∈ GW := gw_t (List.mem_of_getElem? (i := 69) (by decide +kernel)) rfl
set_option maxRecDepth 100000 in
theorem q_70 : (.fieldLink RX5 160 "KeptPlans$Plan" "way" "I") ∈ GW := gw_t (List.mem_of_getElem? (i := 70) (by decide +kernel)) rfl
set_option maxRecDepth 100000 in
theorem q_71 : (.fieldLink RX1 20 "KeptPlans$Plan" "least" "I") ∈ GW := gw_t (List.mem_of_getElem? (i := 71) (by decide +kernel)) rfl
set_option maxRecDepth 100000 in
theorem q_72 : (.fieldLink RX3 110 "KeptPlans$Plan" "least" "I") ∈ GW := gw_t (List.mem_of_getElem? (i := 72) (by decide +kernel)) rfl
set_option maxRecDepth 100000 in
theorem q_73 : (.fieldLink RX5 163 "KeptPlans$Plan" "least" "I") ∈ GW := gw_t (List.mem_of_getElem? (i := 73) (by decide +kernel)) rfl
set_option maxRecDepth 100000 in
theorem q_74 : (.fieldLink RX1 23 "KeptPlans$Plan" "most" "I") ∈ GW := gw_t (List.mem_of_getElem? (i := 74) (by decide +kernel)) rfl
set_option maxRecDepth 100000 in
theorem q_75 : (.fieldLink RX3 113 "KeptPlans$Plan" "most" "I") ∈ GW := gw_t (List.mem_of_getElem? (i := 75) (by decide +kernel)) rfl
set_option maxRecDepth 100000 in
theorem q_76 : (.fieldLink RX5 166 "KeptPlans$Plan" "most" "I") ∈ GW := gw_t (List.mem_of_getElem? (i := 76) (by decide +kernel)) rfl
set_option maxRecDepth 100000 in
theorem q_77 : (.fieldLink RX1 26 "KeptPlans$Plan" "number" "I") ∈ GW := gw_t (List.mem_of_getElem? (i := 77) (by decide +kernel)) rfl
set_option maxRecDepth 100000 in
theorem q_78 : (.fieldLink RX3 157 "KeptPlans$Plan" "number" "I") ∈ GW := gw_t (List.mem_of_getElem? (i := 78) (by decide +kernel)) rfl
set_option maxRecDepth 100000 in
theorem q_79 : (.fieldLink RX5 169 "KeptPlans$Plan" "number" "I") ∈ GW := gw_t (List.mem_of_getElem? (i := 79) (by decide +kernel)) rfl
set_option maxRecDepth 100000 in
theorem q_80 : (.fieldLink RX1 29 "KeptPlans$Plan" "guess" "I") ∈ GW := gw_t (List.mem_of_getElem? (i := 80) (by decide +kernel)) rfl
set_option maxRecDepth 100000 in
theorem q_81 : (.fieldLink RX3 103 "KeptPlans$Plan" "guess" "I") ∈ GW := gw_t (List.mem_of_getElem? (i := 81) (by decide +kernel)) rfl
set_option maxRecDepth 100000 in
theorem q_82 : (.fieldLink RX5 172 "KeptPlans$Plan" "guess" "I") ∈ GW := gw_t (List.mem_of_getElem? (i := 82) (by decide +kernel)) rfl
set_option maxRecDepth 100000 in
theorem q_83 : (.fieldLink RX1 32 "KeptPlans$Plan" "rows" "I") ∈ GW := gw_t (List.mem_of_getElem? (i := 83) (by decide +kernel)) rfl
set_option maxRecDepth 100000 in
theorem q_84 : (.fieldLink RX3 89 "KeptPlans$Plan" "rows" "I") ∈ GW := gw_t (List.mem_of_getElem? (i := 84) (by decide +kernel)) rfl
set_option maxRecDepth 100000 in
theorem q_85 : (.fieldLink RX5 190 "KeptPlans$Plan" "rows" "I") ∈ GW := gw_t (List.mem_of_getElem? (i := 85) (by decide +kernel)) rfl
set_option maxRecDepth 100000 in
theorem q_86 : (.fieldLink RX1 35 "KeptPlans$Plan" "uses" "I") ∈ GW := gw_t (List.mem_of_getElem? (i := 86) (by decide +kernel)) rfl
set_option maxRecDepth 100000 in
theorem q_87 : (.fieldLink RX3 130 "KeptPlans$Plan" "uses" "I") ∈ GW := gw_t (List.mem_of_getElem? (i := 87) (by decide +kernel)) rfl
set_option maxRecDepth 100000 in
theorem q_88 : (.fieldLink RX5 184 "KeptPlans$Plan" "uses" "I") ∈ GW := gw_t (List.mem_of_getElem? (i := 88) (by decide +kernel)) rfl
set_option maxRecDepth 100000 in
theorem q_89 : (.fieldLink RX1 38 "KeptPlans$Plan" "madeAt" "I") ∈ GW := gw_t (List.mem_of_getElem? (i := 89) (by decide +kernel)) rfl
set_option maxRecDepth 100000 in
theorem q_90 : (.fieldLink RX3 93 "KeptPlans$Plan" "madeAt" "I") ∈ GW := gw_t (List.mem_of_getElem? (i := 90) (by decide +kernel)) rfl
set_option maxRecDepth 100000 in
theorem q_91 : (.fieldLink RX5 178 "KeptPlans$Plan" "madeAt" "I") ∈ GW := gw_t (List.mem_of_getElem? (i := 91) (by decide +kernel)) rfl
set_option maxRecDepth 100000 in
theorem q_92 : (.fieldLink RX1 41 "KeptPlans$Plan" "usedAt" "I") ∈ GW := gw_t (List.mem_of_getElem? (i := 92) (by decide +kernel)) rfl
set_option maxRecDepth 100000 in
theorem q_93 : (.fieldLink RX3 133 "KeptPlans$Plan" "usedAt" "I") ∈ GW := gw_t (List.mem_of_getElem? (i := 93) (by decide +kernel)) rfl
set_option maxRecDepth 100000 in
theorem q_94 : (.fieldLink RX5 187 "KeptPlans$Plan" "usedAt" "I") ∈ GW := gw_t (List.mem_of_getElem? (i := 94) (by decide +kernel)) rfl
set_option maxRecDepth 100000 in
theorem q_118 : (.fieldLink RX3 11 "KeptPlans$State" "tables" "[LKeptPlans$Table;") ∈ GW := gw_t (List.mem_of_getElem? (i := 118) (by decide +kernel)) rfl
set_option maxRecDepth 100000 in
theorem q_119 : (.fieldLink RX5 41 "KeptPlans$State" "tables" "[LKeptPlans$Table;") ∈ GW := gw_t (List.mem_of_getElem? (i := 119) (by decide +kernel)) rfl
set_option maxRecDepth 100000 in
theorem q_120 : (.fieldLink RX3 19 "KeptPlans$State" "plans" "[LKeptPlans$Plan;") ∈ GW := gw_t (List.mem_of_getElem? (i := 120) (by decide +kernel)) rfl
set_option maxRecDepth 100000 in
theorem q_121 : (.fieldLink RX5 92 "KeptPlans$State" "plans" "[LKeptPlans$Plan;") ∈ GW := gw_t (List.mem_of_getElem? (i := 121) (by decide +kernel)) rfl
set_option maxRecDepth 100000 in
theorem q_122 : (.fieldLink RX3 23 "KeptPlans$State" "settings" "[I") ∈ GW := gw_t (List.mem_of_getElem? (i := 122) (by decide +kernel)) rfl
set_option maxRecDepth 100000 in
theorem q_123 : (.fieldLink RX5 131 "KeptPlans$State" "settings" "[I") ∈ GW := gw_t (List.mem_of_getElem? (i := 123) (by decide +kernel)) rfl
set_option maxRecDepth 100000 in
theorem q_124 : (.fieldLink RX3 36 "KeptPlans$State" "questions" "I") ∈ GW := gw_t (List.mem_of_getElem? (i := 124) (by decide +kernel)) rfl
set_option maxRecDepth 100000 in
theorem q_125 : (.fieldLink RX5 175 "KeptPlans$State" "questions" "I") ∈ GW := gw_t (List.mem_of_getElem? (i := 125) (by decide +kernel)) rfl
set_option maxRecDepth 100000 in
theorem q_126 : (.fieldLink RX3 40 "KeptPlans$State" "hits" "I") ∈ GW := gw_t (List.mem_of_getElem? (i := 126) (by decide +kernel)) rfl
set_option maxRecDepth 100000 in
theorem q_127 : (.fieldLink RX5 217 "KeptPlans$State" "hits" "I") ∈ GW := gw_t (List.mem_of_getElem? (i := 127) (by decide +kernel)) rfl
set_option maxRecDepth 100000 in
theorem q_128 : (.fieldLink RX3 43 "KeptPlans$State" "misses" "I") ∈ GW := gw_t (List.mem_of_getElem? (i := 128) (by decide +kernel)) rfl
set_option maxRecDepth 100000 in
theorem q_129 : (.fieldLink RX5 220 "KeptPlans$State" "misses" "I") ∈ GW := gw_t (List.mem_of_getElem? (i := 129) (by decide +kernel)) rfl
set_option maxRecDepth 100000 in
theorem q_130 : (.fieldLink RX3 46 "KeptPlans$State" "spent" "I") ∈ GW := gw_t (List.mem_of_getElem? (i := 130) (by decide +kernel)) rfl
set_option maxRecDepth 100000 in
theorem q_131 : (.fieldLink RX5 223 "KeptPlans$State" "spent" "I") ∈ GW := gw_t (List.mem_of_getElem? (i := 131) (by decide +kernel)) rfl
set_option maxRecDepth 100000 in
theorem q_132 : (.fieldLink RX3 49 "KeptPlans$State" "spentLooking" "I") ∈ GW := gw_t (List.mem_of_getElem? (i := 132) (by decide +kernel)) rfl
set_option maxRecDepth 100000 in
theorem q_133 : (.fieldLink RX5 224 "KeptPlans$State" "spentLooking" "I") ∈ GW := gw_t (List.mem_of_getElem? (i := 133) (by decide +kernel)) rfl
set_option maxRecDepth 100000 in
theorem q_134 : (.fieldLink RX3 52 "KeptPlans$State" "turnedBad" "I") ∈ GW := gw_t (List.mem_of_getElem? (i := 134) (by decide +kernel)) rfl
set_option maxRecDepth 100000 in
theorem q_135 : (.fieldLink RX5 227 "KeptPlans$State" "turnedBad" "I") ∈ GW := gw_t (List.mem_of_getElem? (i := 135) (by decide +kernel)) rfl
set_option maxRecDepth 100000 in
theorem q_136 : (.fieldLink RX3 55 "KeptPlans$State" "crowdedOut" "I") ∈ GW := gw_t (List.mem_of_getElem? (i := 136) (by decide +kernel)) rfl
set_option maxRecDepth 100000 in
theorem q_137 : (.fieldLink RX5 230 "KeptPlans$State" "crowdedOut" "I") ∈ GW := gw_t (List.mem_of_getElem? (i := 137) (by decide +kernel)) rfl
set_option maxRecDepth 100000 in
theorem q_159 : (.classLink RX5 19 "KeptPlans$History") ∈ GW := gw_t (List.mem_of_getElem? (i := 159) (by decide +kernel)) rfl
set_option maxRecDepth 100000 in
theorem q_160 : (.instantiable RX0 3) ∈ GW := gw_t (List.mem_of_getElem? (i := 160) (by decide +kernel)) rfl
set_option maxRecDepth 100000 in
theorem q_161 : (.methodLink RX5 21 yX0_init) ∈ GW := gw_t (List.mem_of_getElem? (i := 161) (by decide +kernel)) rfl
set_option maxRecDepth 100000 in
theorem q_162 : (.instanceMethod yX0_init) ∈ GW := gw_t (List.mem_of_getElem? (i := 162) (by decide +kernel)) rfl
set_option maxRecDepth 100000 in
theorem q_163 : (.code yX0_init cX0_init 2 none) ∈ GW := gw_t (List.mem_of_getElem? (i := 163) (by decide +kernel)) rfl
set_option maxRecDepth 100000 in
theorem q_164 : (.methodLink RX0 3 objectInit) ∈ GW := gw_t (List.mem_of_getElem? (i := 164) (by decide +kernel)) rfl
set_option maxRecDepth 100000 in
theorem q_165 : (.classLink RX0 9 "KeptPlans$State") ∈ GW := gw_t (List.mem_of_getElem? (i := 165) (by decide +kernel)) rfl
set_option maxRecDepth 100000 in
theorem q_167 : (.methodLink RX0 17 yX3_init) ∈ GW := gw_t (List.mem_of_getElem? (i := 167) (by decide +kernel)) rfl
set_option maxRecDepth 100000 in
theorem q_168 : (.fieldLink RX0 11 "KeptPlans$History" "states" "[LKeptPlans$State;") ∈ GW := gw_t (List.mem_of_getElem? (i := 168) (by decide +kernel)) rfl
set_option maxRecDepth 100000 in
theorem q_169 : (.fieldLink RX0 18 "KeptPlans$History" "next" "I") ∈ GW := gw_t (List.mem_of_getElem? (i := 169) (by decide +kernel)) rfl
set_option maxRecDepth 100000 in
theorem q_170 : (.fieldLink RX0 26 "KeptPlans$History" "size" "I") ∈ GW := gw_t (List.mem_of_getElem? (i := 170) (by decide +kernel)) rfl
set_option maxRecDepth 100000 in
theorem q_171 : (.fieldLink RX5 144 "KeptPlans$History" "size" "I") ∈ GW := gw_t (List.mem_of_getElem? (i := 171) (by decide +kernel)) rfl
set_option maxRecDepth 100000 in
theorem q_179 : (.classLink RX5 26 "KeptPlans$QuestionText") ∈ GW := gw_t (List.mem_of_getElem? (i := 179) (by decide +kernel)) rfl
set_option maxRecDepth 100000 in
theorem q_180 : (.instantiable RX2 7) ∈ GW := gw_t (List.mem_of_getElem? (i := 180) (by decide +kernel)) rfl
set_option maxRecDepth 100000 in
theorem q_182 : (.instanceMethod yX2_init) ∈ GW := gw_t (List.mem_of_getElem? (i := 182) (by decide +kernel)) rfl
set_option maxRecDepth 100000 in
theorem q_183 : (.code yX2_init cX2_init 1 none) ∈ GW := gw_t (List.mem_of_getElem? (i := 183) (by decide +kernel)) rfl
set_option maxRecDepth 100000 in
theorem q_184 : (.methodLink RX2 3 objectInit) ∈ GW := gw_t (List.mem_of_getElem? (i := 184) (by decide +kernel)) rfl
set_option maxRecDepth 100000 in
theorem q_185 : (.fieldLink RX2 9 "KeptPlans$QuestionText" "signs" "[C") ∈ GW := gw_t (List.mem_of_getElem? (i := 185) (by decide +kernel)) rfl
set_option maxRecDepth 100000 in
theorem q_186 : (.fieldLink RX2 36 "KeptPlans$QuestionText" "length" "I") ∈ GW := gw_t (List.mem_of_getElem? (i := 186) (by decide +kernel)) rfl
set_option maxRecDepth 100000 in
theorem q_187 : (.fieldLink RX5 137 "KeptPlans$QuestionText" "length" "I") ∈ GW := gw_t (List.mem_of_getElem? (i := 187) (by decide +kernel)) rfl
set_option maxRecDepth 100000 in
theorem q_188 : (.fieldLink RX2 15 "KeptPlans$QuestionText" "words" "[I") ∈ GW := gw_t (List.mem_of_getElem? (i := 188) (by decide +kernel)) rfl
set_option maxRecDepth 100000 in
theorem q_189 : (.fieldLink RX5 80 "KeptPlans$QuestionText" "words" "[I") ∈ GW := gw_t (List.mem_of_getElem? (i := 189) (by decide +kernel)) rfl
set_option maxRecDepth 100000 in
theorem q_190 : (.fieldLink RX2 19 "KeptPlans$QuestionText" "tables" "[I") ∈ GW := gw_t (List.mem_of_getElem? (i := 190) (by decide +kernel)) rfl
set_option maxRecDepth 100000 in
theorem q_191 : (.fieldLink RX5 84 "KeptPlans$QuestionText" "tables" "[I") ∈ GW := gw_t (List.mem_of_getElem? (i := 191) (by decide +kernel)) rfl
set_option maxRecDepth 100000 in
theorem q_192 : (.fieldLink RX2 22 "KeptPlans$QuestionText" "numbers" "[I") ∈ GW := gw_t (List.mem_of_getElem? (i := 192) (by decide +kernel)) rfl
set_option maxRecDepth 100000 in
theorem q_193 : (.fieldLink RX5 86 "KeptPlans$QuestionText" "numbers" "[I") ∈ GW := gw_t (List.mem_of_getElem? (i := 193) (by decide +kernel)) rfl
set_option maxRecDepth 100000 in
theorem q_194 : (.fieldLink RX2 29 "KeptPlans$QuestionText" "lines" "I") ∈ GW := gw_t (List.mem_of_getElem? (i := 194) (by decide +kernel)) rfl
set_option maxRecDepth 100000 in
theorem q_195 : (.fieldLink RX5 77 "KeptPlans$QuestionText" "lines" "I") ∈ GW := gw_t (List.mem_of_getElem? (i := 195) (by decide +kernel)) rfl
set_option maxRecDepth 100000 in
theorem q_196 : (.fieldLink RX2 25 "KeptPlans$QuestionText" "at" "I") ∈ GW := gw_t (List.mem_of_getElem? (i := 196) (by decide +kernel)) rfl
set_option maxRecDepth 100000 in
theorem q_212 : (.arrayClass .char) ∈ GW := gw_t (List.mem_of_getElem? (i := 212) (by decide +kernel)) rfl
set_option maxRecDepth 100000 in
theorem q_213 : (.fieldLink RX5 10 "KeptPlans" "now" "LKeptPlans$State;") ∈ GW := gw_t (List.mem_of_getElem? (i := 213) (by decide +kernel)) rfl
set_option maxRecDepth 100000 in
theorem q_214 : (.fieldLink RX5 16 "KeptPlans" "snapshot" "LKeptPlans$State;") ∈ GW := gw_t (List.mem_of_getElem? (i := 214) (by decide +kernel)) rfl
set_option maxRecDepth 100000 in
theorem q_215 : (.fieldLink RX5 22 "KeptPlans" "history" "LKeptPlans$History;") ∈ GW := gw_t (List.mem_of_getElem? (i := 215) (by decide +kernel)) rfl
set_option maxRecDepth 100000 in
theorem q_216 : (.fieldLink RX5 29 "KeptPlans" "text" "LKeptPlans$QuestionText;") ∈ GW := gw_t (List.mem_of_getElem? (i := 216) (by decide +kernel)) rfl
set_option maxRecDepth 100000 in
theorem q_217 : (.fieldLink RX5 33 "KeptPlans" "hasSnapshot" "Z") ∈ GW := gw_t (List.mem_of_getElem? (i := 217) (by decide +kernel)) rfl
set_option maxRecDepth 100000 in
theorem q_229 : (.methodLink RL 9 yX5_table) ∈ GW := gw_t (List.mem_of_getElem? (i := 229) (by decide +kernel)) rfl
set_option maxRecDepth 100000 in
theorem q_230 : (.instanceMethod yX5_table) ∈ GW := gw_t (List.mem_of_getElem? (i := 230) (by decide +kernel)) rfl
set_option maxRecDepth 100000 in
theorem q_231 : (.selects RX5 yX5_table yX5_table) ∈ GW := gw_t (List.mem_of_getElem? (i := 231) (by decide +kernel)) rfl
set_option maxRecDepth 100000 in
theorem q_232 : (.code yX5_table cX5_table 5 (some .int)) ∈ GW := gw_t (List.mem_of_getElem? (i := 232) (by decide +kernel)) rfl
set_option maxRecDepth 100000 in
theorem q_233 : (.methodLink RX5 37 yX5_isTable) ∈ GW := gw_t (List.mem_of_getElem? (i := 233) (by decide +kernel)) rfl
set_option maxRecDepth 100000 in
theorem q_234 : (.static yX5_isTable) ∈ GW := gw_t (List.mem_of_getElem? (i := 234) (by decide +kernel)) rfl
set_option maxRecDepth 100000 in
theorem q_235 : (.code yX5_isTable cX5_isTable 1 (some .boolean)) ∈ GW := gw_t (List.mem_of_getElem? (i := 235) (by decide +kernel)) rfl
set_option maxRecDepth 100000 in
theorem q_236 : (.methodLink RX5 54 yX0_record) ∈ GW := gw_t (List.mem_of_getElem? (i := 236) (by decide +kernel)) rfl
set_option maxRecDepth 100000 in
theorem q_237 : (.instanceMethod yX0_record) ∈ GW := gw_t (List.mem_of_getElem? (i := 237) (by decide +kernel)) rfl
set_option maxRecDepth 100000 in
theorem q_238 : (.selects RX0 yX0_record yX0_record) ∈ GW := gw_t (List.mem_of_getElem? (i := 238) (by decide +kernel)) rfl
set_option maxRecDepth 100000 in
theorem q_239 : (.code yX0_record cX0_record 2 none) ∈ GW := gw_t (List.mem_of_getElem? (i := 239) (by decide +kernel)) rfl
set_option maxRecDepth 100000 in
theorem q_240 : (.methodLink RX0 22 yX3_copyFrom) ∈ GW := gw_t (List.mem_of_getElem? (i := 240) (by decide +kernel)) rfl
set_option maxRecDepth 100000 in
theorem q_241 : (.instanceMethod yX3_copyFrom) ∈ GW := gw_t (List.mem_of_getElem? (i := 241) (by decide +kernel)) rfl
set_option maxRecDepth 100000 in
theorem q_242 : (.selects RX3 yX3_copyFrom yX3_copyFrom) ∈ GW := gw_t (List.mem_of_getElem? (i := 242) (by decide +kernel)) rfl
set_option maxRecDepth 100000 in
theorem q_243 : (.code yX3_copyFrom cX3_copyFrom 3 none) ∈ GW := gw_t (List.mem_of_getElem? (i := 243) (by decide +kernel)) rfl
set_option maxRecDepth 100000 in
theorem q_244 : (.methodLink RX3 29 yX4_copyFrom) ∈ GW := gw_t (List.mem_of_getElem? (i := 244) (by decide +kernel)) rfl
set_option maxRecDepth 100000 in
theorem q_245 : (.instanceMethod yX4_copyFrom) ∈ GW := gw_t (List.mem_of_getElem? (i := 245) (by decide +kernel)) rfl
set_option maxRecDepth 100000 in
theorem q_246 : (.selects RX4 yX4_copyFrom yX4_copyFrom) ∈ GW := gw_t (List.mem_of_getElem? (i := 246) (by decide +kernel)) rfl
set_option maxRecDepth 100000 in
theorem q_247 : (.code yX4_copyFrom cX4_copyFrom 2 none) ∈ GW := gw_t (List.mem_of_getElem? (i := 247) (by decide +kernel)) rfl
set_option maxRecDepth 100000 in
theorem q_248 : (.methodLink RX3 33 yX1_copyFrom) ∈ GW := gw_t (List.mem_of_getElem? (i := 248) (by decide +kernel)) rfl
set_option maxRecDepth 100000 in
theorem q_249 : (.instanceMethod yX1_copyFrom) ∈ GW := gw_t (List.mem_of_getElem? (i := 249) (by decide +kernel)) rfl
set_option maxRecDepth 100000 in
theorem q_250 : (.selects RX1 yX1_copyFrom yX1_copyFrom) ∈ GW := gw_t (List.mem_of_getElem? (i := 250) (by decide +kernel)) rfl
set_option maxRecDepth 100000 in
theorem q_251 : (.code yX1_copyFrom cX1_copyFrom 2 none) ∈ GW := gw_t (List.mem_of_getElem? (i := 251) (by decide +kernel)) rfl
set_option maxRecDepth 100000 in
theorem q_252 : (.methodLink RX0 29 yJ9_min_7cf53) ∈ GW := gw_t (List.mem_of_getElem? (i := 252) (by decide +kernel)) rfl
set_option maxRecDepth 100000 in
theorem q_253 : (.static yJ9_min_7cf53) ∈ GW := gw_t (List.mem_of_getElem? (i := 253) (by decide +kernel)) rfl
set_option maxRecDepth 100000 in
theorem q_254 : (.code yJ9_min_7cf53 cJ9_min_7cf53 2 (some .int)) ∈ GW := gw_t (List.mem_of_getElem? (i := 254) (by decide +kernel)) rfl
set_option maxRecDepth 100000 in
theorem q_255 : (.methodLink RX5 58 yX3_resize) ∈ GW := gw_t (List.mem_of_getElem? (i := 255) (by decide +kernel)) rfl
set_option maxRecDepth 100000 in
theorem q_256 : (.instanceMethod yX3_resize) ∈ GW := gw_t (List.mem_of_getElem? (i := 256) (by decide +kernel)) rfl
set_option maxRecDepth 100000 in
theorem q_257 : (.selects RX3 yX3_resize yX3_resize) ∈ GW := gw_t (List.mem_of_getElem? (i := 257) (by decide +kernel)) rfl
set_option maxRecDepth 100000 in
theorem q_258 : (.code yX3_resize cX3_resize 4 none) ∈ GW := gw_t (List.mem_of_getElem? (i := 258) (by decide +kernel)) rfl
set_option maxRecDepth 100000 in
theorem q_259 : (.methodLink RL 31 yX5_ask) ∈ GW := gw_t (List.mem_of_getElem? (i := 259) (by decide +kernel)) rfl
set_option maxRecDepth 100000 in
theorem q_260 : (.instanceMethod yX5_ask) ∈ GW := gw_t (List.mem_of_getElem? (i := 260) (by decide +kernel)) rfl
set_option maxRecDepth 100000 in
theorem q_261 : (.selects RX5 yX5_ask yX5_ask) ∈ GW := gw_t (List.mem_of_getElem? (i := 261) (by decide +kernel)) rfl
set_option maxRecDepth 100000 in
theorem q_262 : (.code yX5_ask cX5_ask 3 (some .int)) ∈ GW := gw_t (List.mem_of_getElem? (i := 262) (by decide +kernel)) rfl
set_option maxRecDepth 100000 in
theorem q_263 : (.methodLink RX5 62 yX5_isShape) ∈ GW := gw_t (List.mem_of_getElem? (i := 263) (by decide +kernel)) rfl
set_option maxRecDepth 100000 in
theorem q_264 : (.static yX5_isShape) ∈ GW := gw_t (List.mem_of_getElem? (i := 264) (by decide +kernel)) rfl
set_option maxRecDepth 100000 in
theorem q_265 : (.code yX5_isShape cX5_isShape 1 (some .boolean)) ∈ GW := gw_t (List.mem_of_getElem? (i := 265) (by decide +kernel)) rfl
set_option maxRecDepth 100000 in
theorem q_266 : (.methodLink RX5 65 yX5_isNumberOf) ∈ GW := gw_t (List.mem_of_getElem? (i := 266) (by decide +kernel)) rfl
set_option maxRecDepth 100000 in
theorem q_267 : (.static yX5_isNumberOf) ∈ GW := gw_t (List.mem_of_getElem? (i := 267) (by decide +kernel)) rfl
set_option maxRecDepth 100000 in
theorem q_268 : (.code yX5_isNumberOf cX5_isNumberOf 2 (some .boolean)) ∈ GW := gw_t (List.mem_of_getElem? (i := 268) (by decide +kernel)) rfl
set_option maxRecDepth 100000 in
theorem q_269 : (.methodLink RX5 201 yX5_leastNumberOf) ∈ GW := gw_t (List.mem_of_getElem? (i := 269) (by decide +kernel)) rfl
set_option maxRecDepth 100000 in
theorem q_270 : (.static yX5_leastNumberOf) ∈ GW := gw_t (List.mem_of_getElem? (i := 270) (by decide +kernel)) rfl
set_option maxRecDepth 100000 in
theorem q_271 : (.code yX5_leastNumberOf cX5_leastNumberOf 1 (some .int)) ∈ GW := gw_t (List.mem_of_getElem? (i := 271) (by decide +kernel)) rfl
set_option maxRecDepth 100000 in
theorem q_272 : (.methodLink RX5 69 yX3_answer) ∈ GW := gw_t (List.mem_of_getElem? (i := 272) (by decide +kernel)) rfl
set_option maxRecDepth 100000 in
theorem q_273 : (.instanceMethod yX3_answer) ∈ GW := gw_t (List.mem_of_getElem? (i := 273) (by decide +kernel)) rfl
set_option maxRecDepth 100000 in
theorem q_274 : (.selects RX3 yX3_answer yX3_answer) ∈ GW := gw_t (List.mem_of_getElem? (i := 274) (by decide +kernel)) rfl
set_option maxRecDepth 100000 in
theorem q_275 : (.code yX3_answer cX3_answer 6 (some .int)) ∈ GW := gw_t (List.mem_of_getElem? (i := 275) (by decide +kernel)) rfl
set_option maxRecDepth 100000 in
theorem q_276 : (.methodLink RX3 116 yX3_whyNotUsed) ∈ GW := gw_t (List.mem_of_getElem? (i := 276) (by decide +kernel)) rfl
set_option maxRecDepth 100000 in
theorem q_277 : (.instanceMethod yX3_whyNotUsed) ∈ GW := gw_t (List.mem_of_getElem? (i := 277) (by decide +kernel)) rfl
set_option maxRecDepth 100000 in
theorem q_278 : (.selects RX3 yX3_whyNotUsed yX3_whyNotUsed) ∈ GW := gw_t (List.mem_of_getElem? (i := 278) (by decide +kernel)) rfl
set_option maxRecDepth 100000 in
theorem q_279 : (.code yX3_whyNotUsed cX3_whyNotUsed 4 (some .int)) ∈ GW := gw_t (List.mem_of_getElem? (i := 279) (by decide +kernel)) rfl
set_option maxRecDepth 100000 in
theorem q_280 : (.methodLink RX3 96 yX3_rowsChangedTooMuch) ∈ GW := gw_t (List.mem_of_getElem? (i := 280) (by decide +kernel)) rfl
set_option maxRecDepth 100000 in
theorem q_281 : (.instanceMethod yX3_rowsChangedTooMuch) ∈ GW := gw_t (List.mem_of_getElem? (i := 281) (by decide +kernel)) rfl
set_option maxRecDepth 100000 in
theorem q_282 : (.selects RX3 yX3_rowsChangedTooMuch yX3_rowsChangedTooMuch) ∈ GW := gw_t (List.mem_of_getElem? (i := 282) (by decide +kernel)) rfl
set_option maxRecDepth 100000 in
theorem q_283 : (.code yX3_rowsChangedTooMuch cX3_rowsChangedTooMuch 3 (some .boolean)) ∈ GW := gw_t (List.mem_of_getElem? (i := 283) (by decide +kernel)) rfl
set_option maxRecDepth 100000 in
theorem q_284 : (.methodLink RX3 64 yX3_tableUnder) ∈ GW := gw_t (List.mem_of_getElem? (i := 284) (by decide +kernel)) rfl
set_option maxRecDepth 100000 in
theorem q_285 : (.instanceMethod yX3_tableUnder) ∈ GW := gw_t (List.mem_of_getElem? (i := 285) (by decide +kernel)) rfl
set_option maxRecDepth 100000 in
theorem q_286 : (.selects RX3 yX3_tableUnder yX3_tableUnder) ∈ GW := gw_t (List.mem_of_getElem? (i := 286) (by decide +kernel)) rfl
set_option maxRecDepth 100000 in
theorem q_287 : (.code yX3_tableUnder cX3_tableUnder 2 (some (.object "KeptPlans$Table"))) ∈ GW := gw_t (List.mem_of_getElem? (i := 287) (by decide +kernel)) rfl
set_option maxRecDepth 100000 in
theorem q_288 : (.methodLink RX3 90 yJ9_abs_0f7a4) ∈ GW := gw_t (List.mem_of_getElem? (i := 288) (by decide +kernel)) rfl
set_option maxRecDepth 100000 in
theorem q_289 : (.static yJ9_abs_0f7a4) ∈ GW := gw_t (List.mem_of_getElem? (i := 289) (by decide +kernel)) rfl
set_option maxRecDepth 100000 in
theorem q_290 : (.code yJ9_abs_0f7a4 cJ9_abs_0f7a4 1 (some .int)) ∈ GW := gw_t (List.mem_of_getElem? (i := 290) (by decide +kernel)) rfl
set_option maxRecDepth 100000 in
theorem q_291 : (.methodLink RX3 100 yX3_isTooOld) ∈ GW := gw_t (List.mem_of_getElem? (i := 291) (by decide +kernel)) rfl
set_option maxRecDepth 100000 in
theorem q_292 : (.instanceMethod yX3_isTooOld) ∈ GW := gw_t (List.mem_of_getElem? (i := 292) (by decide +kernel)) rfl
set_option maxRecDepth 100000 in
theorem q_293 : (.selects RX3 yX3_isTooOld yX3_isTooOld) ∈ GW := gw_t (List.mem_of_getElem? (i := 293) (by decide +kernel)) rfl
set_option maxRecDepth 100000 in
theorem q_294 : (.code yX3_isTooOld cX3_isTooOld 2 (some .boolean)) ∈ GW := gw_t (List.mem_of_getElem? (i := 294) (by decide +kernel)) rfl
set_option maxRecDepth 100000 in
theorem q_295 : (.methodLink RX3 119 yX3_answerByPlan) ∈ GW := gw_t (List.mem_of_getElem? (i := 295) (by decide +kernel)) rfl
set_option maxRecDepth 100000 in
theorem q_296 : (.instanceMethod yX3_answerByPlan) ∈ GW := gw_t (List.mem_of_getElem? (i := 296) (by decide +kernel)) rfl
set_option maxRecDepth 100000 in
theorem q_297 : (.selects RX3 yX3_answerByPlan yX3_answerByPlan) ∈ GW := gw_t (List.mem_of_getElem? (i := 297) (by decide +kernel)) rfl
set_option maxRecDepth 100000 in
theorem q_298 : (.code yX3_answerByPlan cX3_answerByPlan 5 (some .int)) ∈ GW := gw_t (List.mem_of_getElem? (i := 298) (by decide +kernel)) rfl
set_option maxRecDepth 100000 in
theorem q_299 : (.methodLink RX3 85 yX3_priceBy) ∈ GW := gw_t (List.mem_of_getElem? (i := 299) (by decide +kernel)) rfl
