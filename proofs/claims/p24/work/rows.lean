section
-- ===== PART A: goes FIRST, ahead of the names: the tables' words, and 'selects' of the private methods out of them =====
/-- a private method of a class that the tables say can be made, by its rows of tables_1 -/
def lw_okq (q : MethodName × Nat) : Prop := (q.1.cls ≠ "java/lang/invoke/MethodHandle" ∧ q.1.cls ≠ "java/lang/invoke/VarHandle") ∧ Cond.instantiable q.1.cls q.2 ∈ tables_1 ∧ Cond.privateMethod q.1 ∈ tables_1 ∧ Cond.instanceMethod q.1 ∈ tables_1
theorem lw_p0 : lw_okq (⟨"KeptPlans", "hasPlan", "(I)Z"⟩, 5) := ⟨⟨by decide +kernel, by decide +kernel⟩, List.mem_of_getElem? (i := 13) (by decide +kernel), List.mem_of_getElem? (i := 456) (by decide +kernel), List.mem_of_getElem? (i := 457) (by decide +kernel)⟩
def lw_privs_1 : List (MethodName × Nat) := [(⟨"KeptPlans", "hasPlan", "(I)Z"⟩, 5)]
theorem lw_r1 : ∀ q ∈ lw_privs_1, lw_okq q := List.forall_mem_cons.mpr ⟨lw_p0, fun _ h => absurd h List.not_mem_nil⟩
def lw_privs : List (MethodName × Nat) := lw_privs_1
def lw_tbl : List Cond := k2_sels lw_privs ++ tables_1
theorem lw_privs_ok : ∀ q ∈ lw_privs, lw_okq q := lw_r1
end
section
def RX0 : String := "KeptPlans$History"
def TX0 : u_T := fun k => match k with
  | 0 => ("KeptPlans$History", "states", "[LKeptPlans$State;", true)
  | 1 => ("KeptPlans$History", "next", "I", false)
  | _ => ("KeptPlans$History", "size", "I", false)
def tyX0 : Nat → FieldType := fun k => match k with
  | 0 => .array (.object "KeptPlans$State")
  | 1 => .int
  | _ => .int
abbrev wsX00 : List Cond := u_ws RX0 TX0 3
theorem nmX0 : ∀ a, a < 3 → ∀ b, b < 3 → a ≠ b → (TX0 a).2.1 ≠ (TX0 b).2.1 := by decide +kernel
theorem tyX0_ok : ∀ k, k < 3 → parseFieldDescriptor (TX0 k).2.2.1 = some (tyX0 k) := by decide +kernel
abbrev cX0_init : ByteArray := prog_2_method_1_code
def yX0_init : MethodName := ⟨RX0, "<init>", "()V"⟩
abbrev cX0_record : ByteArray := prog_2_method_2_code
def yX0_record : MethodName := ⟨RX0, "record", "(LKeptPlans$State;)V"⟩
abbrev cX0_takeBack : ByteArray := prog_2_method_3_code
def yX0_takeBack : MethodName := ⟨RX0, "takeBack", "(LKeptPlans$State;)V"⟩
def RX1 : String := "KeptPlans$Plan"
def TX1 : u_T := fun k => match k with
  | 0 => ("KeptPlans$Plan", "kept", "Z", false)
  | 1 => ("KeptPlans$Plan", "pinned", "Z", false)
  | 2 => ("KeptPlans$Plan", "way", "I", false)
  | 3 => ("KeptPlans$Plan", "least", "I", false)
  | 4 => ("KeptPlans$Plan", "most", "I", false)
  | 5 => ("KeptPlans$Plan", "number", "I", false)
  | 6 => ("KeptPlans$Plan", "guess", "I", false)
  | 7 => ("KeptPlans$Plan", "rows", "I", false)
  | 8 => ("KeptPlans$Plan", "uses", "I", false)
  | 9 => ("KeptPlans$Plan", "madeAt", "I", false)
  | _ => ("KeptPlans$Plan", "usedAt", "I", false)
def tyX1 : Nat → FieldType := fun k => match k with
  | 0 => .boolean
  | 1 => .boolean
  | 2 => .int
  | 3 => .int
  | 4 => .int
  | 5 => .int
  | 6 => .int
  | 7 => .int
  | 8 => .int
  | 9 => .int
  | _ => .int
abbrev wsX10 : List Cond := u_ws RX1 TX1 11
theorem nmX1 : ∀ a, a < 11 → ∀ b, b < 11 → a ≠ b → (TX1 a).2.1 ≠ (TX1 b).2.1 := by decide +kernel
theorem tyX1_ok : ∀ k, k < 11 → parseFieldDescriptor (TX1 k).2.2.1 = some (tyX1 k) := by decide +kernel
abbrev cX1_init : ByteArray := prog_3_method_1_code
def yX1_init : MethodName := ⟨RX1, "<init>", "()V"⟩
abbrev cX1_copyFrom : ByteArray := prog_3_method_2_code
def yX1_copyFrom : MethodName := ⟨RX1, "copyFrom", "(LKeptPlans$Plan;)V"⟩
def RX2 : String := "KeptPlans$QuestionText"
def TX2 : u_T := fun k => match k with
  | 0 => ("KeptPlans$QuestionText", "signs", "[C", true)
  | 1 => ("KeptPlans$QuestionText", "length", "I", false)
  | 2 => ("KeptPlans$QuestionText", "words", "[I", true)
  | 3 => ("KeptPlans$QuestionText", "tables", "[I", true)
  | 4 => ("KeptPlans$QuestionText", "numbers", "[I", true)
  | 5 => ("KeptPlans$QuestionText", "lines", "I", false)
  | _ => ("KeptPlans$QuestionText", "at", "I", false)
def tyX2 : Nat → FieldType := fun k => match k with
  | 0 => .array .char
  | 1 => .int
  | 2 => .array .int
  | 3 => .array .int
  | 4 => .array .int
  | 5 => .int
  | _ => .int
abbrev wsX20 : List Cond := u_ws RX2 TX2 7
theorem nmX2 : ∀ a, a < 7 → ∀ b, b < 7 → a ≠ b → (TX2 a).2.1 ≠ (TX2 b).2.1 := by decide +kernel
theorem tyX2_ok : ∀ k, k < 7 → parseFieldDescriptor (TX2 k).2.2.1 = some (tyX2 k) := by decide +kernel
abbrev cX2_init : ByteArray := prog_4_method_1_code
def yX2_init : MethodName := ⟨RX2, "<init>", "()V"⟩
abbrev cX2_read : ByteArray := prog_4_method_2_code
def yX2_read : MethodName := ⟨RX2, "read", "()I"⟩
abbrev cX2_readLine : ByteArray := prog_4_method_3_code
def yX2_readLine : MethodName := ⟨RX2, "readLine", "(I)Z"⟩
abbrev cX2_readWord : ByteArray := prog_4_method_4_code
def yX2_readWord : MethodName := ⟨RX2, "readWord", "()I"⟩
abbrev cX2_readKeyOrKeys : ByteArray := prog_4_method_5_code
def yX2_readKeyOrKeys : MethodName := ⟨RX2, "readKeyOrKeys", "()I"⟩
abbrev cX2_readNumber : ByteArray := prog_4_method_6_code
def yX2_readNumber : MethodName := ⟨RX2, "readNumber", "(II)I"⟩
abbrev cX2_pass : ByteArray := prog_4_method_7_code
def yX2_pass : MethodName := ⟨RX2, "pass", "(Ljava/lang/String;)Z"⟩
abbrev cX2_sign : ByteArray := prog_4_method_8_code
def yX2_sign : MethodName := ⟨RX2, "sign", "()I"⟩
abbrev cX2_digit : ByteArray := prog_4_method_9_code
def yX2_digit : MethodName := ⟨RX2, "digit", "()I"⟩
def RX3 : String := "KeptPlans$State"
def TX3 : u_T := fun k => match k with
  | 0 => ("KeptPlans$State", "tables", "[LKeptPlans$Table;", true)
  | 1 => ("KeptPlans$State", "plans", "[LKeptPlans$Plan;", true)
  | 2 => ("KeptPlans$State", "settings", "[I", true)
  | 3 => ("KeptPlans$State", "questions", "I", false)
  | 4 => ("KeptPlans$State", "hits", "I", false)
  | 5 => ("KeptPlans$State", "misses", "I", false)
  | 6 => ("KeptPlans$State", "spent", "I", false)
  | 7 => ("KeptPlans$State", "spentLooking", "I", false)
  | 8 => ("KeptPlans$State", "turnedBad", "I", false)
  | _ => ("KeptPlans$State", "crowdedOut", "I", false)
def tyX3 : Nat → FieldType := fun k => match k with
  | 0 => .array (.object "KeptPlans$Table")
  | 1 => .array (.object "KeptPlans$Plan")
  | 2 => .array .int
  | 3 => .int
  | 4 => .int
  | 5 => .int
  | 6 => .int
  | 7 => .int
  | 8 => .int
  | _ => .int
abbrev wsX30 : List Cond := u_ws RX3 TX3 10
theorem nmX3 : ∀ a, a < 10 → ∀ b, b < 10 → a ≠ b → (TX3 a).2.1 ≠ (TX3 b).2.1 := by decide +kernel
theorem tyX3_ok : ∀ k, k < 10 → parseFieldDescriptor (TX3 k).2.2.1 = some (tyX3 k) := by decide +kernel
abbrev cX3_init : ByteArray := prog_5_method_1_code
def yX3_init : MethodName := ⟨RX3, "<init>", "()V"⟩
abbrev cX3_copyFrom : ByteArray := prog_5_method_2_code
def yX3_copyFrom : MethodName := ⟨RX3, "copyFrom", "(LKeptPlans$State;)V"⟩
abbrev cX3_resize : ByteArray := prog_5_method_3_code
def yX3_resize : MethodName := ⟨RX3, "resize", "(IZI)V"⟩
abbrev cX3_tableUnder : ByteArray := prog_5_method_4_code
def yX3_tableUnder : MethodName := ⟨RX3, "tableUnder", "(I)LKeptPlans$Table;"⟩
abbrev cX3_priceBy : ByteArray := prog_5_method_5_code
def yX3_priceBy : MethodName := ⟨RX3, "priceBy", "(III)I"⟩
abbrev cX3_rowsMet : ByteArray := prog_5_method_6_code
def yX3_rowsMet : MethodName := ⟨RX3, "rowsMet", "(II)I"⟩
abbrev cX3_cheapestWay : ByteArray := prog_5_method_7_code
def yX3_cheapestWay : MethodName := ⟨RX3, "cheapestWay", "(II)I"⟩
abbrev cX3_rowsChangedTooMuch : ByteArray := prog_5_method_8_code
def yX3_rowsChangedTooMuch : MethodName := ⟨RX3, "rowsChangedTooMuch", "(I)Z"⟩
abbrev cX3_isTooOld : ByteArray := prog_5_method_9_code
def yX3_isTooOld : MethodName := ⟨RX3, "isTooOld", "(I)Z"⟩
abbrev cX3_isStale : ByteArray := prog_5_method_10_code
def yX3_isStale : MethodName := ⟨RX3, "isStale", "(I)Z"⟩
abbrev cX3_isTooDear : ByteArray := prog_5_method_11_code
def yX3_isTooDear : MethodName := ⟨RX3, "isTooDear", "(II)Z"⟩
abbrev cX3_whyNotUsed : ByteArray := prog_5_method_12_code
def yX3_whyNotUsed : MethodName := ⟨RX3, "whyNotUsed", "(II)I"⟩
abbrev cX3_answer : ByteArray := prog_5_method_13_code
def yX3_answer : MethodName := ⟨RX3, "answer", "(II)I"⟩
abbrev cX3_answerByPlan : ByteArray := prog_5_method_14_code
def yX3_answerByPlan : MethodName := ⟨RX3, "answerByPlan", "(II)I"⟩
abbrev cX3_answerByLooking : ByteArray := prog_5_method_15_code
def yX3_answerByLooking : MethodName := ⟨RX3, "answerByLooking", "(II)I"⟩
abbrev cX3_place : ByteArray := prog_5_method_16_code
def yX3_place : MethodName := ⟨RX3, "place", "(IIIII)V"⟩
abbrev cX3_couldKeep : ByteArray := prog_5_method_17_code
def yX3_couldKeep : MethodName := ⟨RX3, "couldKeep", "(I)Z"⟩
abbrev cX3_lacksRoomFor : ByteArray := prog_5_method_18_code
def yX3_lacksRoomFor : MethodName := ⟨RX3, "lacksRoomFor", "(I)Z"⟩
abbrev cX3_firstCrowdedOutBy : ByteArray := prog_5_method_19_code
def yX3_firstCrowdedOutBy : MethodName := ⟨RX3, "firstCrowdedOutBy", "(I)I"⟩
abbrev cX3_makeRoomFor : ByteArray := prog_5_method_20_code
def yX3_makeRoomFor : MethodName := ⟨RX3, "makeRoomFor", "(I)V"⟩
abbrev cX3_crowdOutDownTo : ByteArray := prog_5_method_21_code
def yX3_crowdOutDownTo : MethodName := ⟨RX3, "crowdOutDownTo", "(I)V"⟩
abbrev cX3_oldestUnpinned : ByteArray := prog_5_method_22_code
def yX3_oldestUnpinned : MethodName := ⟨RX3, "oldestUnpinned", "()I"⟩
abbrev cX3_keptPlansOf : ByteArray := prog_5_method_23_code
def yX3_keptPlansOf : MethodName := ⟨RX3, "keptPlansOf", "(I)I"⟩
abbrev cX3_keptPlans : ByteArray := prog_5_method_24_code
def yX3_keptPlans : MethodName := ⟨RX3, "keptPlans", "()I"⟩
abbrev cX3_pinnedPlans : ByteArray := prog_5_method_25_code
def yX3_pinnedPlans : MethodName := ⟨RX3, "pinnedPlans", "()I"⟩
abbrev cX3_stalePlans : ByteArray := prog_5_method_26_code
def yX3_stalePlans : MethodName := ⟨RX3, "stalePlans", "()I"⟩
def RX4 : String := "KeptPlans$Table"
def TX4 : u_T := fun k => match k with
  | 0 => ("KeptPlans$Table", "rows", "I", false)
  | 1 => ("KeptPlans$Table", "keys", "I", false)
  | 2 => ("KeptPlans$Table", "questions", "I", false)
  | _ => ("KeptPlans$Table", "spent", "I", false)
def tyX4 : Nat → FieldType := fun k => match k with
  | 0 => .int
  | 1 => .int
  | 2 => .int
  | _ => .int
abbrev wsX40 : List Cond := u_ws RX4 TX4 4
theorem nmX4 : ∀ a, a < 4 → ∀ b, b < 4 → a ≠ b → (TX4 a).2.1 ≠ (TX4 b).2.1 := by decide +kernel
theorem tyX4_ok : ∀ k, k < 4 → parseFieldDescriptor (TX4 k).2.2.1 = some (tyX4 k) := by decide +kernel
abbrev cX4_init : ByteArray := prog_6_method_1_code
def yX4_init : MethodName := ⟨RX4, "<init>", "()V"⟩
abbrev cX4_copyFrom : ByteArray := prog_6_method_2_code
def yX4_copyFrom : MethodName := ⟨RX4, "copyFrom", "(LKeptPlans$Table;)V"⟩
def RX5 : String := "KeptPlans"
def TX5 : u_T := fun k => match k with
  | 0 => ("KeptPlans", "now", "LKeptPlans$State;", true)
  | 1 => ("KeptPlans", "snapshot", "LKeptPlans$State;", true)
  | 2 => ("KeptPlans", "history", "LKeptPlans$History;", true)
  | 3 => ("KeptPlans", "text", "LKeptPlans$QuestionText;", true)
  | _ => ("KeptPlans", "hasSnapshot", "Z", false)
def tyX5 : Nat → FieldType := fun k => match k with
  | 0 => .object "KeptPlans$State"
  | 1 => .object "KeptPlans$State"
  | 2 => .object "KeptPlans$History"
  | 3 => .object "KeptPlans$QuestionText"
  | _ => .boolean
abbrev wsX50 : List Cond := u_ws RX5 TX5 5
theorem nmX5 : ∀ a, a < 5 → ∀ b, b < 5 → a ≠ b → (TX5 a).2.1 ≠ (TX5 b).2.1 := by decide +kernel
theorem tyX5_ok : ∀ k, k < 5 → parseFieldDescriptor (TX5 k).2.2.1 = some (tyX5 k) := by decide +kernel
abbrev cX5_init : ByteArray := prog_1_method_1_code
def yX5_init : MethodName := ⟨RX5, "<init>", "()V"⟩
abbrev cX5_table : ByteArray := prog_1_method_2_code
def yX5_table : MethodName := ⟨RX5, "table", "(IZI)I"⟩
abbrev cX5_ask : ByteArray := prog_1_method_3_code
def yX5_ask : MethodName := ⟨RX5, "ask", "(II)I"⟩
abbrev cX5_askAll : ByteArray := prog_1_method_4_code
def yX5_askAll : MethodName := ⟨RX5, "askAll", "()I"⟩
abbrev cX5_pin : ByteArray := prog_1_method_5_code
def yX5_pin : MethodName := ⟨RX5, "pin", "(IZ)I"⟩
abbrev cX5_throwOut : ByteArray := prog_1_method_6_code
def yX5_throwOut : MethodName := ⟨RX5, "throwOut", "(I)I"⟩
abbrev cX5_make : ByteArray := prog_1_method_7_code
def yX5_make : MethodName := ⟨RX5, "make", "(IIIII)I"⟩
abbrev cX5_set : ByteArray := prog_1_method_8_code
def yX5_set : MethodName := ⟨RX5, "set", "(II)I"⟩
abbrev cX5_undo : ByteArray := prog_1_method_11_code
def yX5_undo : MethodName := ⟨RX5, "undo", "()I"⟩
abbrev cX5_restore : ByteArray := prog_1_method_13_code
def yX5_restore : MethodName := ⟨RX5, "restore", "()I"⟩
abbrev cX5_cost : ByteArray := prog_1_method_14_code
def yX5_cost : MethodName := ⟨RX5, "cost", "(III)I"⟩
abbrev cX5_cheapest : ByteArray := prog_1_method_15_code
def yX5_cheapest : MethodName := ⟨RX5, "cheapest", "(II)I"⟩
abbrev cX5_plan : ByteArray := prog_1_method_16_code
def yX5_plan : MethodName := ⟨RX5, "plan", "(II)I"⟩
abbrev cX5_reason : ByteArray := prog_1_method_17_code
def yX5_reason : MethodName := ⟨RX5, "reason", "(II)I"⟩
abbrev cX5_ifAsked : ByteArray := prog_1_method_18_code
def yX5_ifAsked : MethodName := ⟨RX5, "ifAsked", "(III)I"⟩
abbrev cX5_reach : ByteArray := prog_1_method_19_code
def yX5_reach : MethodName := ⟨RX5, "reach", "(II)I"⟩
abbrev cX5_oldest : ByteArray := prog_1_method_20_code
def yX5_oldest : MethodName := ⟨RX5, "oldest", "()I"⟩
abbrev cX5_tableOf : ByteArray := prog_1_method_21_code
def yX5_tableOf : MethodName := ⟨RX5, "tableOf", "(II)I"⟩
abbrev cX5_count : ByteArray := prog_1_method_22_code
def yX5_count : MethodName := ⟨RX5, "count", "(I)I"⟩
abbrev cX5_isTable : ByteArray := prog_1_method_23_code
def yX5_isTable : MethodName := ⟨RX5, "isTable", "(I)Z"⟩
abbrev cX5_isShape : ByteArray := prog_1_method_24_code
def yX5_isShape : MethodName := ⟨RX5, "isShape", "(I)Z"⟩
abbrev cX5_isWay : ByteArray := prog_1_method_25_code
def yX5_isWay : MethodName := ⟨RX5, "isWay", "(I)Z"⟩
abbrev cX5_hasPlan : ByteArray := prog_1_method_26_code
def yX5_hasPlan : MethodName := ⟨RX5, "hasPlan", "(I)Z"⟩
abbrev cX5_leastNumberOf : ByteArray := prog_1_method_27_code
def yX5_leastNumberOf : MethodName := ⟨RX5, "leastNumberOf", "(I)I"⟩
abbrev cX5_isNumberOf : ByteArray := prog_1_method_28_code
def yX5_isNumberOf : MethodName := ⟨RX5, "isNumberOf", "(II)Z"⟩
abbrev cX5_bitsOf : ByteArray := prog_1_method_29_code
def yX5_bitsOf : MethodName := ⟨RX5, "bitsOf", "(I)I"⟩
abbrev cX5_quotient : ByteArray := prog_1_method_30_code
def yX5_quotient : MethodName := ⟨RX5, "quotient", "(II)I"⟩
def RX6 : String := "KeptPlansModel"
def TX6 : u_T := fun k => match k with
  | _ => ("", "", "", false)
def tyX6 : Nat → FieldType := fun k => match k with
  | _ => .int
abbrev wsX60 : List Cond := u_ws RX6 TX6 0
theorem nmX6 : ∀ a, a < 0 → ∀ b, b < 0 → a ≠ b → (TX6 a).2.1 ≠ (TX6 b).2.1 := by decide +kernel
theorem tyX6_ok : ∀ k, k < 0 → parseFieldDescriptor (TX6 k).2.2.1 = some (tyX6 k) := by decide +kernel
def RJ9 : String := "java/lang/Math"
def TJ9 : u_T := fun k => match k with
  | _ => ("", "", "", false)
def tyJ9 : Nat → FieldType := fun k => match k with
  | _ => .int
abbrev wsJ90 : List Cond := u_ws RJ9 TJ9 0
theorem nmJ9 : ∀ a, a < 0 → ∀ b, b < 0 → a ≠ b → (TJ9 a).2.1 ≠ (TJ9 b).2.1 := by decide +kernel
theorem tyJ9_ok : ∀ k, k < 0 → parseFieldDescriptor (TJ9 k).2.2.1 = some (tyJ9 k) := by decide +kernel
abbrev cJ9_abs_0f7a4 : ByteArray := prog_9_method_59_code
def yJ9_abs_0f7a4 : MethodName := ⟨RJ9, "abs", "(I)I"⟩
abbrev cJ9_min_7cf53 : ByteArray := prog_9_method_69_code
def yJ9_min_7cf53 : MethodName := ⟨RJ9, "min", "(II)I"⟩
def RJ0 : String := "java/lang/String"
def TJ0 : u_T := fun k => match k with
  | _ => ("", "", "", false)
def tyJ0 : Nat → FieldType := fun k => match k with
  | _ => .int
abbrev wsJ00 : List Cond := u_ws RJ0 TJ0 0
theorem nmJ0 : ∀ a, a < 0 → ∀ b, b < 0 → a ≠ b → (TJ0 a).2.1 ≠ (TJ0 b).2.1 := by decide +kernel
theorem tyJ0_ok : ∀ k, k < 0 → parseFieldDescriptor (TJ0 k).2.2.1 = some (tyJ0 k) := by decide +kernel
abbrev cJ0_length_8abf5 : ByteArray := prog_10_method_54_code
def yJ0_length_8abf5 : MethodName := ⟨RJ0, "length", "()I"⟩
abbrev cJ0_charAt_5068e : ByteArray := prog_10_method_56_code
def yJ0_charAt_5068e : MethodName := ⟨RJ0, "charAt", "(I)C"⟩
abbrev cJ0_coder_7d493 : ByteArray := prog_10_method_152_code
def yJ0_coder_7d493 : MethodName := ⟨RJ0, "coder", "()B"⟩
abbrev cJ0_isLatin1_aae02 : ByteArray := prog_10_method_154_code
def yJ0_isLatin1_aae02 : MethodName := ⟨RJ0, "isLatin1", "()Z"⟩
abbrev cJ0_checkIndex_df160 : ByteArray := prog_10_method_155_code
def yJ0_checkIndex_df160 : MethodName := ⟨RJ0, "checkIndex", "(II)V"⟩
def RJ1 : String := "java/lang/StringLatin1"
def TJ1 : u_T := fun k => match k with
  | _ => ("", "", "", false)
def tyJ1 : Nat → FieldType := fun k => match k with
  | _ => .int
abbrev wsJ10 : List Cond := u_ws RJ1 TJ1 0
theorem nmJ1 : ∀ a, a < 0 → ∀ b, b < 0 → a ≠ b → (TJ1 a).2.1 ≠ (TJ1 b).2.1 := by decide +kernel
theorem tyJ1_ok : ∀ k, k < 0 → parseFieldDescriptor (TJ1 k).2.2.1 = some (tyJ1 k) := by decide +kernel
abbrev cJ1_charAt_3b067 : ByteArray := prog_11_method_2_code
def yJ1_charAt_3b067 : MethodName := ⟨RJ1, "charAt", "([BI)C"⟩
def RJ2 : String := "java/lang/StringUTF16"
def TJ2 : u_T := fun k => match k with
  | _ => ("", "", "", false)
def tyJ2 : Nat → FieldType := fun k => match k with
  | _ => .int
abbrev wsJ20 : List Cond := u_ws RJ2 TJ2 0
theorem nmJ2 : ∀ a, a < 0 → ∀ b, b < 0 → a ≠ b → (TJ2 a).2.1 ≠ (TJ2 b).2.1 := by decide +kernel
theorem tyJ2_ok : ∀ k, k < 0 → parseFieldDescriptor (TJ2 k).2.2.1 = some (tyJ2 k) := by decide +kernel
abbrev cJ2_getChar_3b067 : ByteArray := prog_12_method_5_code
def yJ2_getChar_3b067 : MethodName := ⟨RJ2, "getChar", "([BI)C"⟩
abbrev cJ2_length_9d52b : ByteArray := prog_12_method_6_code
def yJ2_length_9d52b : MethodName := ⟨RJ2, "length", "([B)I"⟩
abbrev cJ2_charAt_3b067 : ByteArray := prog_12_method_83_code
def yJ2_charAt_3b067 : MethodName := ⟨RJ2, "charAt", "([BI)C"⟩
abbrev cJ2_checkIndex_2214a : ByteArray := prog_12_method_91_code
def yJ2_checkIndex_2214a : MethodName := ⟨RJ2, "checkIndex", "(I[B)V"⟩
def RJ3 : String := "jdk/internal/util/Preconditions"
def TJ3 : u_T := fun k => match k with
  | _ => ("", "", "", false)
def tyJ3 : Nat → FieldType := fun k => match k with
  | _ => .int
abbrev wsJ30 : List Cond := u_ws RJ3 TJ3 0
theorem nmJ3 : ∀ a, a < 0 → ∀ b, b < 0 → a ≠ b → (TJ3 a).2.1 ≠ (TJ3 b).2.1 := by decide +kernel
theorem tyJ3_ok : ∀ k, k < 0 → parseFieldDescriptor (TJ3 k).2.2.1 = some (tyJ3 k) := by decide +kernel
abbrev cJ3_checkIndex_8e157 : ByteArray := prog_13_method_11_code
def yJ3_checkIndex_8e157 : MethodName := ⟨RJ3, "checkIndex", "(IILjava/util/function/BiFunction;)I"⟩
def RL : String := "KeptPlansLaw"
abbrev cL_cell : ByteArray := method_2_code
def yL_cell : MethodName := ⟨RL, "cell", "([II)I"⟩
abbrev cL_acts : ByteArray := method_3_code
def yL_acts : MethodName := ⟨RL, "acts", "(LKeptPlans;I)I"⟩
abbrev cL_hangs : ByteArray := method_4_code
def yL_hangs : MethodName := ⟨RL, "hangs", "(LKeptPlans;I)Z"⟩
abbrev cL_ways : ByteArray := method_5_code
def yL_ways : MethodName := ⟨RL, "ways", "(LKeptPlans;II)Z"⟩
abbrev cL_law : ByteArray := code
def yL_law : MethodName := ⟨RL, "law", "([I)Z"⟩
abbrev vwCl : List vw_C := [(RX0, TX0, 3), (RX1, TX1, 11), (RX2, TX2, 7), (RX3, TX3, 10), (RX4, TX4, 4), (RX5, TX5, 5)]
def GW : List Cond := lw_tbl.filter goodWord
theorem gw_good : ∀ w ∈ GW, goodWord w = true := fun _ h => (List.mem_filter.mp h).2
theorem gw_t {w : Cond} (h : w ∈ tables_1) (g : goodWord w = true) : w ∈ GW := List.mem_filter.mpr ⟨List.mem_append_right _ h, g⟩
set_option maxRecDepth 100000 in
theorem q_0 : (.initialized RL) ∈ GW := gw_t (List.mem_of_getElem? (i := 0) (by decide +kernel)) rfl
set_option maxRecDepth 100000 in
theorem q_1 : (.initialized RX5) ∈ GW := gw_t (List.mem_of_getElem? (i := 1) (by decide +kernel)) rfl
set_option maxRecDepth 100000 in
theorem q_2 : (.initialized RX3) ∈ GW := gw_t (List.mem_of_getElem? (i := 2) (by decide +kernel)) rfl
set_option maxRecDepth 100000 in
theorem q_3 : (.initialized RX4) ∈ GW := gw_t (List.mem_of_getElem? (i := 3) (by decide +kernel)) rfl
set_option maxRecDepth 100000 in
theorem q_4 : (.initialized RX1) ∈ GW := gw_t (List.mem_of_getElem? (i := 4) (by decide +kernel)) rfl
set_option maxRecDepth 100000 in
theorem q_5 : (.initialized RX0) ∈ GW := gw_t (List.mem_of_getElem? (i := 5) (by decide +kernel)) rfl
set_option maxRecDepth 100000 in
theorem q_6 : (.initialized RX2) ∈ GW := gw_t (List.mem_of_getElem? (i := 6) (by decide +kernel)) rfl
set_option maxRecDepth 100000 in
theorem q_7 : (.initialized RJ9) ∈ GW := gw_t (List.mem_of_getElem? (i := 7) (by decide +kernel)) rfl
set_option maxRecDepth 100000 in
theorem q_8 : (.initialized RJ0) ∈ GW := gw_t (List.mem_of_getElem? (i := 8) (by decide +kernel)) rfl
set_option maxRecDepth 100000 in
theorem q_9 : (.initialized RJ1) ∈ GW := gw_t (List.mem_of_getElem? (i := 9) (by decide +kernel)) rfl
set_option maxRecDepth 100000 in
theorem q_10 : (.initialized RJ3) ∈ GW := gw_t (List.mem_of_getElem? (i := 10) (by decide +kernel)) rfl
set_option maxRecDepth 100000 in
theorem q_11 : (.initialized RJ2) ∈ GW := gw_t (List.mem_of_getElem? (i := 11) (by decide +kernel)) rfl
set_option maxRecDepth 100000 in
theorem q_12 : (.classLink RL 10 "KeptPlans") ∈ GW := gw_t (List.mem_of_getElem? (i := 12) (by decide +kernel)) rfl
set_option maxRecDepth 100000 in
theorem q_13 : (.instantiable RX5 5) ∈ GW := gw_t (List.mem_of_getElem? (i := 13) (by decide +kernel)) rfl
set_option maxRecDepth 100000 in
theorem q_14 : (.methodLink RL 60 yX5_init) ∈ GW := gw_t (List.mem_of_getElem? (i := 14) (by decide +kernel)) rfl
set_option maxRecDepth 100000 in
theorem q_15 : (.instanceMethod yX5_init) ∈ GW := gw_t (List.mem_of_getElem? (i := 15) (by decide +kernel)) rfl
set_option maxRecDepth 100000 in
theorem q_16 : (.code yX5_init cX5_init 1 none) ∈ GW := gw_t (List.mem_of_getElem? (i := 16) (by decide +kernel)) rfl
set_option maxRecDepth 100000 in
theorem q_17 : (.methodLink RX5 1 objectInit) ∈ GW := gw_t (List.mem_of_getElem? (i := 17) (by decide +kernel)) rfl
set_option maxRecDepth 100000 in
theorem q_18 : (.instanceMethod objectInit) ∈ GW := gw_t (List.mem_of_getElem? (i := 18) (by decide +kernel)) rfl
set_option maxRecDepth 100000 in
theorem q_19 : (.code objectInit object_method_1_code 1 none) ∈ GW := gw_t (List.mem_of_getElem? (i := 19) (by decide +kernel)) rfl
set_option maxRecDepth 100000 in
theorem q_20 : (.classLink RX5 7 "KeptPlans$State") ∈ GW := gw_t (List.mem_of_getElem? (i := 20) (by decide +kernel)) rfl
set_option maxRecDepth 100000 in
theorem q_21 : (.instantiable RX3 10) ∈ GW := gw_t (List.mem_of_getElem? (i := 21) (by decide +kernel)) rfl
set_option maxRecDepth 100000 in
theorem q_22 : (.methodLink RX5 9 yX3_init) ∈ GW := gw_t (List.mem_of_getElem? (i := 22) (by decide +kernel)) rfl
set_option maxRecDepth 100000 in
theorem q_23 : (.instanceMethod yX3_init) ∈ GW := gw_t (List.mem_of_getElem? (i := 23) (by decide +kernel)) rfl
set_option maxRecDepth 100000 in
theorem q_24 : (.code yX3_init cX3_init 2 none) ∈ GW := gw_t (List.mem_of_getElem? (i := 24) (by decide +kernel)) rfl
set_option maxRecDepth 100000 in
theorem q_25 : (.methodLink RX3 3 objectInit) ∈ GW := gw_t (List.mem_of_getElem? (i := 25) (by decide +kernel)) rfl
set_option maxRecDepth 100000 in
theorem q_26 : (.classLink RX3 9 "KeptPlans$Table") ∈ GW := gw_t (List.mem_of_getElem? (i := 26) (by decide +kernel)) rfl
set_option maxRecDepth 100000 in
theorem q_28 : (.classLink RX3 17 "KeptPlans$Plan") ∈ GW := gw_t (List.mem_of_getElem? (i := 28) (by decide +kernel)) rfl
set_option maxRecDepth 100000 in
theorem q_30 : (.instantiable RX4 4) ∈ GW := gw_t (List.mem_of_getElem? (i := 30) (by decide +kernel)) rfl
set_option maxRecDepth 100000 in
theorem q_31 : (.methodLink RX3 27 yX4_init) ∈ GW := gw_t (List.mem_of_getElem? (i := 31) (by decide +kernel)) rfl
set_option maxRecDepth 100000 in
theorem q_32 : (.instanceMethod yX4_init) ∈ GW := gw_t (List.mem_of_getElem? (i := 32) (by decide +kernel)) rfl
set_option maxRecDepth 100000 in
theorem q_33 : (.code yX4_init cX4_init 1 none) ∈ GW := gw_t (List.mem_of_getElem? (i := 33) (by decide +kernel)) rfl
set_option maxRecDepth 100000 in
theorem q_34 : (.methodLink RX4 1 objectInit) ∈ GW := gw_t (List.mem_of_getElem? (i := 34) (by decide +kernel)) rfl
set_option maxRecDepth 100000 in
theorem q_35 : (.fieldLink RX4 7 "KeptPlans$Table" "rows" "I") ∈ GW := gw_t (List.mem_of_getElem? (i := 35) (by decide +kernel)) rfl
set_option maxRecDepth 100000 in
theorem q_36 : (.fieldLink RX5 51 "KeptPlans$Table" "rows" "I") ∈ GW := gw_t (List.mem_of_getElem? (i := 36) (by decide +kernel)) rfl
set_option maxRecDepth 100000 in
theorem q_37 : (.fieldLink RX3 61 "KeptPlans$Table" "rows" "I") ∈ GW := gw_t (List.mem_of_getElem? (i := 37) (by decide +kernel)) rfl
set_option maxRecDepth 100000 in
theorem q_38 : (.fieldLink RX4 13 "KeptPlans$Table" "keys" "I") ∈ GW := gw_t (List.mem_of_getElem? (i := 38) (by decide +kernel)) rfl
set_option maxRecDepth 100000 in
theorem q_39 : (.fieldLink RX5 45 "KeptPlans$Table" "keys" "I") ∈ GW := gw_t (List.mem_of_getElem? (i := 39) (by decide +kernel)) rfl
set_option maxRecDepth 100000 in
theorem q_40 : (.fieldLink RX3 58 "KeptPlans$Table" "keys" "I") ∈ GW := gw_t (List.mem_of_getElem? (i := 40) (by decide +kernel)) rfl
set_option maxRecDepth 100000 in
theorem q_41 : (.fieldLink RX4 16 "KeptPlans$Table" "questions" "I") ∈ GW := gw_t (List.mem_of_getElem? (i := 41) (by decide +kernel)) rfl
set_option maxRecDepth 100000 in
theorem q_42 : (.fieldLink RX3 125 "KeptPlans$Table" "questions" "I") ∈ GW := gw_t (List.mem_of_getElem? (i := 42) (by decide +kernel)) rfl
set_option maxRecDepth 100000 in
theorem q_43 : (.fieldLink RX5 210 "KeptPlans$Table" "questions" "I") ∈ GW := gw_t (List.mem_of_getElem? (i := 43) (by decide +kernel)) rfl
set_option maxRecDepth 100000 in
theorem q_44 : (.fieldLink RX4 19 "KeptPlans$Table" "spent" "I") ∈ GW := gw_t (List.mem_of_getElem? (i := 44) (by decide +kernel)) rfl
set_option maxRecDepth 100000 in
theorem q_45 : (.fieldLink RX3 126 "KeptPlans$Table" "spent" "I") ∈ GW := gw_t (List.mem_of_getElem? (i := 45) (by decide +kernel)) rfl
set_option maxRecDepth 100000 in
theorem q_46 : (.fieldLink RX5 211 "KeptPlans$Table" "spent" "I") ∈ GW := gw_t (List.mem_of_getElem? (i := 46) (by decide +kernel)) rfl
set_option maxRecDepth 100000 in
theorem q_56 : (.arrayClass .int) ∈ GW := gw_t (List.mem_of_getElem? (i := 56) (by decide +kernel)) rfl
set_option maxRecDepth 100000 in
theorem q_57 : (.instantiable RX1 11) ∈ GW := gw_t (List.mem_of_getElem? (i := 57) (by decide +kernel)) rfl
set_option maxRecDepth 100000 in
theorem q_59 : (.instanceMethod yX1_init) ∈ GW := gw_t (List.mem_of_getElem? (i := 59) (by decide +kernel)) rfl
set_option maxRecDepth 100000 in
theorem q_60 : (.code yX1_init cX1_init 1 none) ∈ GW := gw_t (List.mem_of_getElem? (i := 60) (by decide +kernel)) rfl
set_option maxRecDepth 100000 in
theorem q_61 : (.methodLink RX1 1 objectInit) ∈ GW := gw_t (List.mem_of_getElem? (i := 61) (by decide +kernel)) rfl
set_option maxRecDepth 100000 in
theorem q_62 : (.fieldLink RX1 7 "KeptPlans$Plan" "kept" "Z") ∈ GW := gw_t (List.mem_of_getElem? (i := 62) (by decide +kernel)) rfl
set_option maxRecDepth 100000 in
theorem q_63 : (.fieldLink RX5 104 "KeptPlans$Plan" "kept" "Z") ∈ GW := gw_t (List.mem_of_getElem? (i := 63) (by decide +kernel)) rfl
set_option maxRecDepth 100000 in
theorem q_64 : (.fieldLink RX3 106 "KeptPlans$Plan" "kept" "Z") ∈ GW := gw_t (List.mem_of_getElem? (i := 64) (by decide +kernel)) rfl
set_option maxRecDepth 100000 in
theorem q_65 : (.fieldLink RX1 13 "KeptPlans$Plan" "pinned" "Z") ∈ GW := gw_t (List.mem_of_getElem? (i := 65) (by decide +kernel)) rfl
set_option maxRecDepth 100000 in
theorem q_66 : (.fieldLink RX5 96 "KeptPlans$Plan" "pinned" "Z") ∈ GW := gw_t (List.mem_of_getElem? (i := 66) (by decide +kernel)) rfl
set_option maxRecDepth 100000 in
theorem q_67 : (.fieldLink RX3 154 "KeptPlans$Plan" "pinned" "Z") ∈ GW := gw_t (List.mem_of_getElem? (i := 67) (by decide +kernel)) rfl
set_option maxRecDepth 100000 in
theorem q_68 : (.fieldLink RX1 16 "KeptPlans$Plan" "way" "I") ∈ GW := gw_t (List.mem_of_getElem? (i := 68) (by decide +kernel)) rfl
set_option maxRecDepth 100000 in
theorem q_69 : (.fieldLink RX3 127 "KeptPlans$Plan" "way" "I") ∈ GW := gw_t (List.mem_of_getElem? (i := 69) (by decide +kernel)) rfl
set_option maxRecDepth 100000 in
theorem q_70 : (.fieldLink RX5 160 "KeptPlans$Plan" "way" "I") ∈ GW := gw_t (List.mem_of_getElem? (i := 70) (by decide +kernel)) rfl
set_option maxRecDepth 100000 in
theorem q_71 : (.fieldLink RX1 20 "KeptPlans$Plan" "least" "I") ∈ GW := gw_t (List.mem_of_getElem? (i := 71) (by decide +kernel)) rfl
set_option maxRecDepth 100000 in
theorem q_72 : (.fieldLink RX3 110 "KeptPlans$Plan" "least" "I") ∈ GW := gw_t (List.mem_of_getElem? (i := 72) (by decide +kernel)) rfl
set_option maxRecDepth 100000 in
theorem q_73 : (.fieldLink RX5 163 "KeptPlans$Plan" "least" "I") ∈ GW := gw_t (List.mem_of_getElem? (i := 73) (by decide +kernel)) rfl
set_option maxRecDepth 100000 in
theorem q_74 : (.fieldLink RX1 23 "KeptPlans$Plan" "most" "I") ∈ GW := gw_t (List.mem_of_getElem? (i := 74) (by decide +kernel)) rfl
set_option maxRecDepth 100000 in
theorem q_75 : (.fieldLink RX3 113 "KeptPlans$Plan" "most" "I") ∈ GW := gw_t (List.mem_of_getElem? (i := 75) (by decide +kernel)) rfl
set_option maxRecDepth 100000 in
theorem q_76 : (.fieldLink RX5 166 "KeptPlans$Plan" "most" "I") ∈ GW := gw_t (List.mem_of_getElem? (i := 76) (by decide +kernel)) rfl
set_option maxRecDepth 100000 in
theorem q_77 : (.fieldLink RX1 26 "KeptPlans$Plan" "number" "I") ∈ GW := gw_t (List.mem_of_getElem? (i := 77) (by decide +kernel)) rfl
set_option maxRecDepth 100000 in
theorem q_78 : (.fieldLink RX3 157 "KeptPlans$Plan" "number" "I") ∈ GW := gw_t (List.mem_of_getElem? (i := 78) (by decide +kernel)) rfl
set_option maxRecDepth 100000 in
theorem q_79 : (.fieldLink RX5 169 "KeptPlans$Plan" "number" "I") ∈ GW := gw_t (List.mem_of_getElem? (i := 79) (by decide +kernel)) rfl
set_option maxRecDepth 100000 in
theorem q_80 : (.fieldLink RX1 29 "KeptPlans$Plan" "guess" "I") ∈ GW := gw_t (List.mem_of_getElem? (i := 80) (by decide +kernel)) rfl
set_option maxRecDepth 100000 in
theorem q_81 : (.fieldLink RX3 103 "KeptPlans$Plan" "guess" "I") ∈ GW := gw_t (List.mem_of_getElem? (i := 81) (by decide +kernel)) rfl
set_option maxRecDepth 100000 in
theorem q_82 : (.fieldLink RX5 172 "KeptPlans$Plan" "guess" "I") ∈ GW := gw_t (List.mem_of_getElem? (i := 82) (by decide +kernel)) rfl
set_option maxRecDepth 100000 in
theorem q_83 : (.fieldLink RX1 32 "KeptPlans$Plan" "rows" "I") ∈ GW := gw_t (List.mem_of_getElem? (i := 83) (by decide +kernel)) rfl
set_option maxRecDepth 100000 in
theorem q_84 : (.fieldLink RX3 89 "KeptPlans$Plan" "rows" "I") ∈ GW := gw_t (List.mem_of_getElem? (i := 84) (by decide +kernel)) rfl
set_option maxRecDepth 100000 in
theorem q_85 : (.fieldLink RX5 190 "KeptPlans$Plan" "rows" "I") ∈ GW := gw_t (List.mem_of_getElem? (i := 85) (by decide +kernel)) rfl
set_option maxRecDepth 100000 in
theorem q_86 : (.fieldLink RX1 35 "KeptPlans$Plan" "uses" "I") ∈ GW := gw_t (List.mem_of_getElem? (i := 86) (by decide +kernel)) rfl
set_option maxRecDepth 100000 in
theorem q_87 : (.fieldLink RX3 130 "KeptPlans$Plan" "uses" "I") ∈ GW := gw_t (List.mem_of_getElem? (i := 87) (by decide +kernel)) rfl
set_option maxRecDepth 100000 in
theorem q_88 : (.fieldLink RX5 184 "KeptPlans$Plan" "uses" "I") ∈ GW := gw_t (List.mem_of_getElem? (i := 88) (by decide +kernel)) rfl
set_option maxRecDepth 100000 in
theorem q_89 : (.fieldLink RX1 38 "KeptPlans$Plan" "madeAt" "I") ∈ GW := gw_t (List.mem_of_getElem? (i := 89) (by decide +kernel)) rfl
set_option maxRecDepth 100000 in
theorem q_90 : (.fieldLink RX3 93 "KeptPlans$Plan" "madeAt" "I") ∈ GW := gw_t (List.mem_of_getElem? (i := 90) (by decide +kernel)) rfl
set_option maxRecDepth 100000 in
theorem q_91 : (.fieldLink RX5 178 "KeptPlans$Plan" "madeAt" "I") ∈ GW := gw_t (List.mem_of_getElem? (i := 91) (by decide +kernel)) rfl
set_option maxRecDepth 100000 in
theorem q_92 : (.fieldLink RX1 41 "KeptPlans$Plan" "usedAt" "I") ∈ GW := gw_t (List.mem_of_getElem? (i := 92) (by decide +kernel)) rfl
set_option maxRecDepth 100000 in
theorem q_93 : (.fieldLink RX3 133 "KeptPlans$Plan" "usedAt" "I") ∈ GW := gw_t (List.mem_of_getElem? (i := 93) (by decide +kernel)) rfl
set_option maxRecDepth 100000 in
theorem q_94 : (.fieldLink RX5 187 "KeptPlans$Plan" "usedAt" "I") ∈ GW := gw_t (List.mem_of_getElem? (i := 94) (by decide +kernel)) rfl
set_option maxRecDepth 100000 in
theorem q_118 : (.fieldLink RX3 11 "KeptPlans$State" "tables" "[LKeptPlans$Table;") ∈ GW := gw_t (List.mem_of_getElem? (i := 118) (by decide +kernel)) rfl
set_option maxRecDepth 100000 in
theorem q_119 : (.fieldLink RX5 41 "KeptPlans$State" "tables" "[LKeptPlans$Table;") ∈ GW := gw_t (List.mem_of_getElem? (i := 119) (by decide +kernel)) rfl
set_option maxRecDepth 100000 in
theorem q_120 : (.fieldLink RX3 19 "KeptPlans$State" "plans" "[LKeptPlans$Plan;") ∈ GW := gw_t (List.mem_of_getElem? (i := 120) (by decide +kernel)) rfl
set_option maxRecDepth 100000 in
theorem q_121 : (.fieldLink RX5 92 "KeptPlans$State" "plans" "[LKeptPlans$Plan;") ∈ GW := gw_t (List.mem_of_getElem? (i := 121) (by decide +kernel)) rfl
set_option maxRecDepth 100000 in
theorem q_122 : (.fieldLink RX3 23 "KeptPlans$State" "settings" "[I") ∈ GW := gw_t (List.mem_of_getElem? (i := 122) (by decide +kernel)) rfl
set_option maxRecDepth 100000 in
theorem q_123 : (.fieldLink RX5 131 "KeptPlans$State" "settings" "[I") ∈ GW := gw_t (List.mem_of_getElem? (i := 123) (by decide +kernel)) rfl
set_option maxRecDepth 100000 in
theorem q_124 : (.fieldLink RX3 36 "KeptPlans$State" "questions" "I") ∈ GW := gw_t (List.mem_of_getElem? (i := 124) (by decide +kernel)) rfl
set_option maxRecDepth 100000 in
theorem q_125 : (.fieldLink RX5 175 "KeptPlans$State" "questions" "I") ∈ GW := gw_t (List.mem_of_getElem? (i := 125) (by decide +kernel)) rfl
set_option maxRecDepth 100000 in
theorem q_126 : (.fieldLink RX3 40 "KeptPlans$State" "hits" "I") ∈ GW := gw_t (List.mem_of_getElem? (i := 126) (by decide +kernel)) rfl
set_option maxRecDepth 100000 in
theorem q_127 : (.fieldLink RX5 217 "KeptPlans$State" "hits" "I") ∈ GW := gw_t (List.mem_of_getElem? (i := 127) (by decide +kernel)) rfl
set_option maxRecDepth 100000 in
theorem q_128 : (.fieldLink RX3 43 "KeptPlans$State" "misses" "I") ∈ GW := gw_t (List.mem_of_getElem? (i := 128) (by decide +kernel)) rfl
set_option maxRecDepth 100000 in
theorem q_129 : (.fieldLink RX5 220 "KeptPlans$State" "misses" "I") ∈ GW := gw_t (List.mem_of_getElem? (i := 129) (by decide +kernel)) rfl
set_option maxRecDepth 100000 in
theorem q_130 : (.fieldLink RX3 46 "KeptPlans$State" "spent" "I") ∈ GW := gw_t (List.mem_of_getElem? (i := 130) (by decide +kernel)) rfl
set_option maxRecDepth 100000 in
theorem q_131 : (.fieldLink RX5 223 "KeptPlans$State" "spent" "I") ∈ GW := gw_t (List.mem_of_getElem? (i := 131) (by decide +kernel)) rfl
set_option maxRecDepth 100000 in
theorem q_132 : (.fieldLink RX3 49 "KeptPlans$State" "spentLooking" "I") ∈ GW := gw_t (List.mem_of_getElem? (i := 132) (by decide +kernel)) rfl
set_option maxRecDepth 100000 in
theorem q_133 : (.fieldLink RX5 224 "KeptPlans$State" "spentLooking" "I") ∈ GW := gw_t (List.mem_of_getElem? (i := 133) (by decide +kernel)) rfl
set_option maxRecDepth 100000 in
theorem q_134 : (.fieldLink RX3 52 "KeptPlans$State" "turnedBad" "I") ∈ GW := gw_t (List.mem_of_getElem? (i := 134) (by decide +kernel)) rfl
set_option maxRecDepth 100000 in
theorem q_135 : (.fieldLink RX5 227 "KeptPlans$State" "turnedBad" "I") ∈ GW := gw_t (List.mem_of_getElem? (i := 135) (by decide +kernel)) rfl
set_option maxRecDepth 100000 in
theorem q_136 : (.fieldLink RX3 55 "KeptPlans$State" "crowdedOut" "I") ∈ GW := gw_t (List.mem_of_getElem? (i := 136) (by decide +kernel)) rfl
set_option maxRecDepth 100000 in
theorem q_137 : (.fieldLink RX5 230 "KeptPlans$State" "crowdedOut" "I") ∈ GW := gw_t (List.mem_of_getElem? (i := 137) (by decide +kernel)) rfl
set_option maxRecDepth 100000 in
theorem q_159 : (.classLink RX5 19 "KeptPlans$History") ∈ GW := gw_t (List.mem_of_getElem? (i := 159) (by decide +kernel)) rfl
set_option maxRecDepth 100000 in
theorem q_160 : (.instantiable RX0 3) ∈ GW := gw_t (List.mem_of_getElem? (i := 160) (by decide +kernel)) rfl
set_option maxRecDepth 100000 in
theorem q_161 : (.methodLink RX5 21 yX0_init) ∈ GW := gw_t (List.mem_of_getElem? (i := 161) (by decide +kernel)) rfl
set_option maxRecDepth 100000 in
theorem q_162 : (.instanceMethod yX0_init) ∈ GW := gw_t (List.mem_of_getElem? (i := 162) (by decide +kernel)) rfl
set_option maxRecDepth 100000 in
theorem q_163 : (.code yX0_init cX0_init 2 none) ∈ GW := gw_t (List.mem_of_getElem? (i := 163) (by decide +kernel)) rfl
set_option maxRecDepth 100000 in
theorem q_164 : (.methodLink RX0 3 objectInit) ∈ GW := gw_t (List.mem_of_getElem? (i := 164) (by decide +kernel)) rfl
set_option maxRecDepth 100000 in
theorem q_165 : (.classLink RX0 9 "KeptPlans$State") ∈ GW := gw_t (List.mem_of_getElem? (i := 165) (by decide +kernel)) rfl
set_option maxRecDepth 100000 in
theorem q_167 : (.methodLink RX0 17 yX3_init) ∈ GW := gw_t (List.mem_of_getElem? (i := 167) (by decide +kernel)) rfl
set_option maxRecDepth 100000 in
theorem q_168 : (.fieldLink RX0 11 "KeptPlans$History" "states" "[LKeptPlans$State;") ∈ GW := gw_t (List.mem_of_getElem? (i := 168) (by decide +kernel)) rfl
set_option maxRecDepth 100000 in
theorem q_169 : (.fieldLink RX0 18 "KeptPlans$History" "next" "I") ∈ GW := gw_t (List.mem_of_getElem? (i := 169) (by decide +kernel)) rfl
set_option maxRecDepth 100000 in
theorem q_170 : (.fieldLink RX0 26 "KeptPlans$History" "size" "I") ∈ GW := gw_t (List.mem_of_getElem? (i := 170) (by decide +kernel)) rfl
set_option maxRecDepth 100000 in
theorem q_171 : (.fieldLink RX5 144 "KeptPlans$History" "size" "I") ∈ GW := gw_t (List.mem_of_getElem? (i := 171) (by decide +kernel)) rfl
set_option maxRecDepth 100000 in
theorem q_179 : (.classLink RX5 26 "KeptPlans$QuestionText") ∈ GW := gw_t (List.mem_of_getElem? (i := 179) (by decide +kernel)) rfl
set_option maxRecDepth 100000 in
theorem q_180 : (.instantiable RX2 7) ∈ GW := gw_t (List.mem_of_getElem? (i := 180) (by decide +kernel)) rfl
set_option maxRecDepth 100000 in
theorem q_182 : (.instanceMethod yX2_init) ∈ GW := gw_t (List.mem_of_getElem? (i := 182) (by decide +kernel)) rfl
set_option maxRecDepth 100000 in
theorem q_183 : (.code yX2_init cX2_init 1 none) ∈ GW := gw_t (List.mem_of_getElem? (i := 183) (by decide +kernel)) rfl
set_option maxRecDepth 100000 in
theorem q_184 : (.methodLink RX2 3 objectInit) ∈ GW := gw_t (List.mem_of_getElem? (i := 184) (by decide +kernel)) rfl
set_option maxRecDepth 100000 in
theorem q_185 : (.fieldLink RX2 9 "KeptPlans$QuestionText" "signs" "[C") ∈ GW := gw_t (List.mem_of_getElem? (i := 185) (by decide +kernel)) rfl
set_option maxRecDepth 100000 in
theorem q_186 : (.fieldLink RX2 36 "KeptPlans$QuestionText" "length" "I") ∈ GW := gw_t (List.mem_of_getElem? (i := 186) (by decide +kernel)) rfl
set_option maxRecDepth 100000 in
theorem q_187 : (.fieldLink RX5 137 "KeptPlans$QuestionText" "length" "I") ∈ GW := gw_t (List.mem_of_getElem? (i := 187) (by decide +kernel)) rfl
set_option maxRecDepth 100000 in
theorem q_188 : (.fieldLink RX2 15 "KeptPlans$QuestionText" "words" "[I") ∈ GW := gw_t (List.mem_of_getElem? (i := 188) (by decide +kernel)) rfl
set_option maxRecDepth 100000 in
theorem q_189 : (.fieldLink RX5 80 "KeptPlans$QuestionText" "words" "[I") ∈ GW := gw_t (List.mem_of_getElem? (i := 189) (by decide +kernel)) rfl
set_option maxRecDepth 100000 in
theorem q_190 : (.fieldLink RX2 19 "KeptPlans$QuestionText" "tables" "[I") ∈ GW := gw_t (List.mem_of_getElem? (i := 190) (by decide +kernel)) rfl
set_option maxRecDepth 100000 in
theorem q_191 : (.fieldLink RX5 84 "KeptPlans$QuestionText" "tables" "[I") ∈ GW := gw_t (List.mem_of_getElem? (i := 191) (by decide +kernel)) rfl
set_option maxRecDepth 100000 in
theorem q_192 : (.fieldLink RX2 22 "KeptPlans$QuestionText" "numbers" "[I") ∈ GW := gw_t (List.mem_of_getElem? (i := 192) (by decide +kernel)) rfl
set_option maxRecDepth 100000 in
theorem q_193 : (.fieldLink RX5 86 "KeptPlans$QuestionText" "numbers" "[I") ∈ GW := gw_t (List.mem_of_getElem? (i := 193) (by decide +kernel)) rfl
set_option maxRecDepth 100000 in
theorem q_194 : (.fieldLink RX2 29 "KeptPlans$QuestionText" "lines" "I") ∈ GW := gw_t (List.mem_of_getElem? (i := 194) (by decide +kernel)) rfl
set_option maxRecDepth 100000 in
theorem q_195 : (.fieldLink RX5 77 "KeptPlans$QuestionText" "lines" "I") ∈ GW := gw_t (List.mem_of_getElem? (i := 195) (by decide +kernel)) rfl
set_option maxRecDepth 100000 in
theorem q_196 : (.fieldLink RX2 25 "KeptPlans$QuestionText" "at" "I") ∈ GW := gw_t (List.mem_of_getElem? (i := 196) (by decide +kernel)) rfl
set_option maxRecDepth 100000 in
theorem q_212 : (.arrayClass .char) ∈ GW := gw_t (List.mem_of_getElem? (i := 212) (by decide +kernel)) rfl
set_option maxRecDepth 100000 in
theorem q_213 : (.fieldLink RX5 10 "KeptPlans" "now" "LKeptPlans$State;") ∈ GW := gw_t (List.mem_of_getElem? (i := 213) (by decide +kernel)) rfl
set_option maxRecDepth 100000 in
theorem q_214 : (.fieldLink RX5 16 "KeptPlans" "snapshot" "LKeptPlans$State;") ∈ GW := gw_t (List.mem_of_getElem? (i := 214) (by decide +kernel)) rfl
set_option maxRecDepth 100000 in
theorem q_215 : (.fieldLink RX5 22 "KeptPlans" "history" "LKeptPlans$History;") ∈ GW := gw_t (List.mem_of_getElem? (i := 215) (by decide +kernel)) rfl
set_option maxRecDepth 100000 in
theorem q_216 : (.fieldLink RX5 29 "KeptPlans" "text" "LKeptPlans$QuestionText;") ∈ GW := gw_t (List.mem_of_getElem? (i := 216) (by decide +kernel)) rfl
set_option maxRecDepth 100000 in
theorem q_217 : (.fieldLink RX5 33 "KeptPlans" "hasSnapshot" "Z") ∈ GW := gw_t (List.mem_of_getElem? (i := 217) (by decide +kernel)) rfl
set_option maxRecDepth 100000 in
theorem q_229 : (.methodLink RL 9 yX5_table) ∈ GW := gw_t (List.mem_of_getElem? (i := 229) (by decide +kernel)) rfl
set_option maxRecDepth 100000 in
theorem q_230 : (.instanceMethod yX5_table) ∈ GW := gw_t (List.mem_of_getElem? (i := 230) (by decide +kernel)) rfl
set_option maxRecDepth 100000 in
theorem q_231 : (.selects RX5 yX5_table yX5_table) ∈ GW := gw_t (List.mem_of_getElem? (i := 231) (by decide +kernel)) rfl
set_option maxRecDepth 100000 in
theorem q_232 : (.code yX5_table cX5_table 5 (some .int)) ∈ GW := gw_t (List.mem_of_getElem? (i := 232) (by decide +kernel)) rfl
set_option maxRecDepth 100000 in
theorem q_233 : (.methodLink RX5 37 yX5_isTable) ∈ GW := gw_t (List.mem_of_getElem? (i := 233) (by decide +kernel)) rfl
set_option maxRecDepth 100000 in
theorem q_234 : (.static yX5_isTable) ∈ GW := gw_t (List.mem_of_getElem? (i := 234) (by decide +kernel)) rfl
set_option maxRecDepth 100000 in
theorem q_235 : (.code yX5_isTable cX5_isTable 1 (some .boolean)) ∈ GW := gw_t (List.mem_of_getElem? (i := 235) (by decide +kernel)) rfl
set_option maxRecDepth 100000 in
theorem q_236 : (.methodLink RX5 54 yX0_record) ∈ GW := gw_t (List.mem_of_getElem? (i := 236) (by decide +kernel)) rfl
set_option maxRecDepth 100000 in
theorem q_237 : (.instanceMethod yX0_record) ∈ GW := gw_t (List.mem_of_getElem? (i := 237) (by decide +kernel)) rfl
set_option maxRecDepth 100000 in
theorem q_238 : (.selects RX0 yX0_record yX0_record) ∈ GW := gw_t (List.mem_of_getElem? (i := 238) (by decide +kernel)) rfl
set_option maxRecDepth 100000 in
theorem q_239 : (.code yX0_record cX0_record 2 none) ∈ GW := gw_t (List.mem_of_getElem? (i := 239) (by decide +kernel)) rfl
set_option maxRecDepth 100000 in
theorem q_240 : (.methodLink RX0 22 yX3_copyFrom) ∈ GW := gw_t (List.mem_of_getElem? (i := 240) (by decide +kernel)) rfl
set_option maxRecDepth 100000 in
theorem q_241 : (.instanceMethod yX3_copyFrom) ∈ GW := gw_t (List.mem_of_getElem? (i := 241) (by decide +kernel)) rfl
set_option maxRecDepth 100000 in
theorem q_242 : (.selects RX3 yX3_copyFrom yX3_copyFrom) ∈ GW := gw_t (List.mem_of_getElem? (i := 242) (by decide +kernel)) rfl
set_option maxRecDepth 100000 in
theorem q_243 : (.code yX3_copyFrom cX3_copyFrom 3 none) ∈ GW := gw_t (List.mem_of_getElem? (i := 243) (by decide +kernel)) rfl
set_option maxRecDepth 100000 in
theorem q_244 : (.methodLink RX3 29 yX4_copyFrom) ∈ GW := gw_t (List.mem_of_getElem? (i := 244) (by decide +kernel)) rfl
set_option maxRecDepth 100000 in
theorem q_245 : (.instanceMethod yX4_copyFrom) ∈ GW := gw_t (List.mem_of_getElem? (i := 245) (by decide +kernel)) rfl
set_option maxRecDepth 100000 in
theorem q_246 : (.selects RX4 yX4_copyFrom yX4_copyFrom) ∈ GW := gw_t (List.mem_of_getElem? (i := 246) (by decide +kernel)) rfl
set_option maxRecDepth 100000 in
theorem q_247 : (.code yX4_copyFrom cX4_copyFrom 2 none) ∈ GW := gw_t (List.mem_of_getElem? (i := 247) (by decide +kernel)) rfl
set_option maxRecDepth 100000 in
theorem q_248 : (.methodLink RX3 33 yX1_copyFrom) ∈ GW := gw_t (List.mem_of_getElem? (i := 248) (by decide +kernel)) rfl
set_option maxRecDepth 100000 in
theorem q_249 : (.instanceMethod yX1_copyFrom) ∈ GW := gw_t (List.mem_of_getElem? (i := 249) (by decide +kernel)) rfl
set_option maxRecDepth 100000 in
theorem q_250 : (.selects RX1 yX1_copyFrom yX1_copyFrom) ∈ GW := gw_t (List.mem_of_getElem? (i := 250) (by decide +kernel)) rfl
set_option maxRecDepth 100000 in
theorem q_251 : (.code yX1_copyFrom cX1_copyFrom 2 none) ∈ GW := gw_t (List.mem_of_getElem? (i := 251) (by decide +kernel)) rfl
set_option maxRecDepth 100000 in
theorem q_252 : (.methodLink RX0 29 yJ9_min_7cf53) ∈ GW := gw_t (List.mem_of_getElem? (i := 252) (by decide +kernel)) rfl
set_option maxRecDepth 100000 in
theorem q_253 : (.static yJ9_min_7cf53) ∈ GW := gw_t (List.mem_of_getElem? (i := 253) (by decide +kernel)) rfl
set_option maxRecDepth 100000 in
theorem q_254 : (.code yJ9_min_7cf53 cJ9_min_7cf53 2 (some .int)) ∈ GW := gw_t (List.mem_of_getElem? (i := 254) (by decide +kernel)) rfl
set_option maxRecDepth 100000 in
theorem q_255 : (.methodLink RX5 58 yX3_resize) ∈ GW := gw_t (List.mem_of_getElem? (i := 255) (by decide +kernel)) rfl
set_option maxRecDepth 100000 in
theorem q_256 : (.instanceMethod yX3_resize) ∈ GW := gw_t (List.mem_of_getElem? (i := 256) (by decide +kernel)) rfl
set_option maxRecDepth 100000 in
theorem q_257 : (.selects RX3 yX3_resize yX3_resize) ∈ GW := gw_t (List.mem_of_getElem? (i := 257) (by decide +kernel)) rfl
set_option maxRecDepth 100000 in
theorem q_258 : (.code yX3_resize cX3_resize 4 none) ∈ GW := gw_t (List.mem_of_getElem? (i := 258) (by decide +kernel)) rfl
set_option maxRecDepth 100000 in
theorem q_259 : (.methodLink RL 31 yX5_ask) ∈ GW := gw_t (List.mem_of_getElem? (i := 259) (by decide +kernel)) rfl
set_option maxRecDepth 100000 in
theorem q_260 : (.instanceMethod yX5_ask) ∈ GW := gw_t (List.mem_of_getElem? (i := 260) (by decide +kernel)) rfl
set_option maxRecDepth 100000 in
theorem q_261 : (.selects RX5 yX5_ask yX5_ask) ∈ GW := gw_t (List.mem_of_getElem? (i := 261) (by decide +kernel)) rfl
set_option maxRecDepth 100000 in
theorem q_262 : (.code yX5_ask cX5_ask 3 (some .int)) ∈ GW := gw_t (List.mem_of_getElem? (i := 262) (by decide +kernel)) rfl
set_option maxRecDepth 100000 in
theorem q_263 : (.methodLink RX5 62 yX5_isShape) ∈ GW := gw_t (List.mem_of_getElem? (i := 263) (by decide +kernel)) rfl
set_option maxRecDepth 100000 in
theorem q_264 : (.static yX5_isShape) ∈ GW := gw_t (List.mem_of_getElem? (i := 264) (by decide +kernel)) rfl
set_option maxRecDepth 100000 in
theorem q_265 : (.code yX5_isShape cX5_isShape 1 (some .boolean)) ∈ GW := gw_t (List.mem_of_getElem? (i := 265) (by decide +kernel)) rfl
set_option maxRecDepth 100000 in
theorem q_266 : (.methodLink RX5 65 yX5_isNumberOf) ∈ GW := gw_t (List.mem_of_getElem? (i := 266) (by decide +kernel)) rfl
set_option maxRecDepth 100000 in
theorem q_267 : (.static yX5_isNumberOf) ∈ GW := gw_t (List.mem_of_getElem? (i := 267) (by decide +kernel)) rfl
set_option maxRecDepth 100000 in
theorem q_268 : (.code yX5_isNumberOf cX5_isNumberOf 2 (some .boolean)) ∈ GW := gw_t (List.mem_of_getElem? (i := 268) (by decide +kernel)) rfl
set_option maxRecDepth 100000 in
theorem q_269 : (.methodLink RX5 201 yX5_leastNumberOf) ∈ GW := gw_t (List.mem_of_getElem? (i := 269) (by decide +kernel)) rfl
set_option maxRecDepth 100000 in
theorem q_270 : (.static yX5_leastNumberOf) ∈ GW := gw_t (List.mem_of_getElem? (i := 270) (by decide +kernel)) rfl
set_option maxRecDepth 100000 in
theorem q_271 : (.code yX5_leastNumberOf cX5_leastNumberOf 1 (some .int)) ∈ GW := gw_t (List.mem_of_getElem? (i := 271) (by decide +kernel)) rfl
set_option maxRecDepth 100000 in
theorem q_272 : (.methodLink RX5 69 yX3_answer) ∈ GW := gw_t (List.mem_of_getElem? (i := 272) (by decide +kernel)) rfl
set_option maxRecDepth 100000 in
theorem q_273 : (.instanceMethod yX3_answer) ∈ GW := gw_t (List.mem_of_getElem? (i := 273) (by decide +kernel)) rfl
set_option maxRecDepth 100000 in
theorem q_274 : (.selects RX3 yX3_answer yX3_answer) ∈ GW := gw_t (List.mem_of_getElem? (i := 274) (by decide +kernel)) rfl
set_option maxRecDepth 100000 in
theorem q_275 : (.code yX3_answer cX3_answer 6 (some .int)) ∈ GW := gw_t (List.mem_of_getElem? (i := 275) (by decide +kernel)) rfl
set_option maxRecDepth 100000 in
theorem q_276 : (.methodLink RX3 116 yX3_whyNotUsed) ∈ GW := gw_t (List.mem_of_getElem? (i := 276) (by decide +kernel)) rfl
set_option maxRecDepth 100000 in
theorem q_277 : (.instanceMethod yX3_whyNotUsed) ∈ GW := gw_t (List.mem_of_getElem? (i := 277) (by decide +kernel)) rfl
set_option maxRecDepth 100000 in
theorem q_278 : (.selects RX3 yX3_whyNotUsed yX3_whyNotUsed) ∈ GW := gw_t (List.mem_of_getElem? (i := 278) (by decide +kernel)) rfl
set_option maxRecDepth 100000 in
theorem q_279 : (.code yX3_whyNotUsed cX3_whyNotUsed 4 (some .int)) ∈ GW := gw_t (List.mem_of_getElem? (i := 279) (by decide +kernel)) rfl
set_option maxRecDepth 100000 in
theorem q_280 : (.methodLink RX3 96 yX3_rowsChangedTooMuch) ∈ GW := gw_t (List.mem_of_getElem? (i := 280) (by decide +kernel)) rfl
set_option maxRecDepth 100000 in
theorem q_281 : (.instanceMethod yX3_rowsChangedTooMuch) ∈ GW := gw_t (List.mem_of_getElem? (i := 281) (by decide +kernel)) rfl
set_option maxRecDepth 100000 in
theorem q_282 : (.selects RX3 yX3_rowsChangedTooMuch yX3_rowsChangedTooMuch) ∈ GW := gw_t (List.mem_of_getElem? (i := 282) (by decide +kernel)) rfl
set_option maxRecDepth 100000 in
theorem q_283 : (.code yX3_rowsChangedTooMuch cX3_rowsChangedTooMuch 3 (some .boolean)) ∈ GW := gw_t (List.mem_of_getElem? (i := 283) (by decide +kernel)) rfl
set_option maxRecDepth 100000 in
theorem q_284 : (.methodLink RX3 64 yX3_tableUnder) ∈ GW := gw_t (List.mem_of_getElem? (i := 284) (by decide +kernel)) rfl
set_option maxRecDepth 100000 in
theorem q_285 : (.instanceMethod yX3_tableUnder) ∈ GW := gw_t (List.mem_of_getElem? (i := 285) (by decide +kernel)) rfl
set_option maxRecDepth 100000 in
theorem q_286 : (.selects RX3 yX3_tableUnder yX3_tableUnder) ∈ GW := gw_t (List.mem_of_getElem? (i := 286) (by decide +kernel)) rfl
set_option maxRecDepth 100000 in
theorem q_287 : (.code yX3_tableUnder cX3_tableUnder 2 (some (.object "KeptPlans$Table"))) ∈ GW := gw_t (List.mem_of_getElem? (i := 287) (by decide +kernel)) rfl
set_option maxRecDepth 100000 in
theorem q_288 : (.methodLink RX3 90 yJ9_abs_0f7a4) ∈ GW := gw_t (List.mem_of_getElem? (i := 288) (by decide +kernel)) rfl
set_option maxRecDepth 100000 in
theorem q_289 : (.static yJ9_abs_0f7a4) ∈ GW := gw_t (List.mem_of_getElem? (i := 289) (by decide +kernel)) rfl
set_option maxRecDepth 100000 in
theorem q_290 : (.code yJ9_abs_0f7a4 cJ9_abs_0f7a4 1 (some .int)) ∈ GW := gw_t (List.mem_of_getElem? (i := 290) (by decide +kernel)) rfl
set_option maxRecDepth 100000 in
theorem q_291 : (.methodLink RX3 100 yX3_isTooOld) ∈ GW := gw_t (List.mem_of_getElem? (i := 291) (by decide +kernel)) rfl
set_option maxRecDepth 100000 in
theorem q_292 : (.instanceMethod yX3_isTooOld) ∈ GW := gw_t (List.mem_of_getElem? (i := 292) (by decide +kernel)) rfl
set_option maxRecDepth 100000 in
theorem q_293 : (.selects RX3 yX3_isTooOld yX3_isTooOld) ∈ GW := gw_t (List.mem_of_getElem? (i := 293) (by decide +kernel)) rfl
set_option maxRecDepth 100000 in
theorem q_294 : (.code yX3_isTooOld cX3_isTooOld 2 (some .boolean)) ∈ GW := gw_t (List.mem_of_getElem? (i := 294) (by decide +kernel)) rfl
set_option maxRecDepth 100000 in
theorem q_295 : (.methodLink RX3 119 yX3_answerByPlan) ∈ GW := gw_t (List.mem_of_getElem? (i := 295) (by decide +kernel)) rfl
set_option maxRecDepth 100000 in
theorem q_296 : (.instanceMethod yX3_answerByPlan) ∈ GW := gw_t (List.mem_of_getElem? (i := 296) (by decide +kernel)) rfl
set_option maxRecDepth 100000 in
theorem q_297 : (.selects RX3 yX3_answerByPlan yX3_answerByPlan) ∈ GW := gw_t (List.mem_of_getElem? (i := 297) (by decide +kernel)) rfl
set_option maxRecDepth 100000 in
theorem q_298 : (.code yX3_answerByPlan cX3_answerByPlan 5 (some .int)) ∈ GW := gw_t (List.mem_of_getElem? (i := 298) (by decide +kernel)) rfl
set_option maxRecDepth 100000 in
theorem q_299 : (.methodLink RX3 85 yX3_priceBy) ∈ GW := gw_t (List.mem_of_getElem? (i := 299) (by decide +kernel)) rfl
set_option maxRecDepth 100000 in
theorem q_300 : (.instanceMethod yX3_priceBy) ∈ GW := gw_t (List.mem_of_getElem? (i := 300) (by decide +kernel)) rfl
set_option maxRecDepth 100000 in
theorem q_301 : (.selects RX3 yX3_priceBy yX3_priceBy) ∈ GW := gw_t (List.mem_of_getElem? (i := 301) (by decide +kernel)) rfl
set_option maxRecDepth 100000 in
theorem q_302 : (.code yX3_priceBy cX3_priceBy 7 (some .int)) ∈ GW := gw_t (List.mem_of_getElem? (i := 302) (by decide +kernel)) rfl
set_option maxRecDepth 100000 in
theorem q_304 : (.static yX5_bitsOf) ∈ GW := gw_t (List.mem_of_getElem? (i := 304) (by decide +kernel)) rfl
set_option maxRecDepth 100000 in
theorem q_305 : (.code yX5_bitsOf cX5_bitsOf 2 (some .int)) ∈ GW := gw_t (List.mem_of_getElem? (i := 305) (by decide +kernel)) rfl
set_option maxRecDepth 100000 in
theorem q_306 : (.methodLink RX3 72 yX3_rowsMet) ∈ GW := gw_t (List.mem_of_getElem? (i := 306) (by decide +kernel)) rfl
set_option maxRecDepth 100000 in
theorem q_307 : (.instanceMethod yX3_rowsMet) ∈ GW := gw_t (List.mem_of_getElem? (i := 307) (by decide +kernel)) rfl
set_option maxRecDepth 100000 in
theorem q_308 : (.selects RX3 yX3_rowsMet yX3_rowsMet) ∈ GW := gw_t (List.mem_of_getElem? (i := 308) (by decide +kernel)) rfl
set_option maxRecDepth 100000 in
theorem q_309 : (.code yX3_rowsMet cX3_rowsMet 5 (some .int)) ∈ GW := gw_t (List.mem_of_getElem? (i := 309) (by decide +kernel)) rfl
set_option maxRecDepth 100000 in
theorem q_311 : (.static yX5_quotient) ∈ GW := gw_t (List.mem_of_getElem? (i := 311) (by decide +kernel)) rfl
set_option maxRecDepth 100000 in
theorem q_312 : (.code yX5_quotient cX5_quotient 2 (some .int)) ∈ GW := gw_t (List.mem_of_getElem? (i := 312) (by decide +kernel)) rfl
set_option maxRecDepth 100000 in
theorem q_313 : (.methodLink RX3 77 yJ9_min_7cf53) ∈ GW := gw_t (List.mem_of_getElem? (i := 313) (by decide +kernel)) rfl
set_option maxRecDepth 100000 in
theorem q_314 : (.constant RX3 76 (1000000 : Int32)) ∈ GW := gw_t (List.mem_of_getElem? (i := 314) (by decide +kernel)) rfl
set_option maxRecDepth 100000 in
theorem q_315 : (.methodLink RX3 136 yX3_isTooDear) ∈ GW := gw_t (List.mem_of_getElem? (i := 315) (by decide +kernel)) rfl
set_option maxRecDepth 100000 in
theorem q_316 : (.instanceMethod yX3_isTooDear) ∈ GW := gw_t (List.mem_of_getElem? (i := 316) (by decide +kernel)) rfl
set_option maxRecDepth 100000 in
theorem q_317 : (.selects RX3 yX3_isTooDear yX3_isTooDear) ∈ GW := gw_t (List.mem_of_getElem? (i := 317) (by decide +kernel)) rfl
set_option maxRecDepth 100000 in
theorem q_318 : (.code yX3_isTooDear cX3_isTooDear 3 (some .boolean)) ∈ GW := gw_t (List.mem_of_getElem? (i := 318) (by decide +kernel)) rfl
set_option maxRecDepth 100000 in
theorem q_319 : (.methodLink RX3 122 yX3_answerByLooking) ∈ GW := gw_t (List.mem_of_getElem? (i := 319) (by decide +kernel)) rfl
set_option maxRecDepth 100000 in
theorem q_320 : (.instanceMethod yX3_answerByLooking) ∈ GW := gw_t (List.mem_of_getElem? (i := 320) (by decide +kernel)) rfl
set_option maxRecDepth 100000 in
theorem q_321 : (.selects RX3 yX3_answerByLooking yX3_answerByLooking) ∈ GW := gw_t (List.mem_of_getElem? (i := 321) (by decide +kernel)) rfl
set_option maxRecDepth 100000 in
theorem q_322 : (.code yX3_answerByLooking cX3_answerByLooking 5 (some .int)) ∈ GW := gw_t (List.mem_of_getElem? (i := 322) (by decide +kernel)) rfl
set_option maxRecDepth 100000 in
theorem q_323 : (.methodLink RX3 140 yX3_cheapestWay) ∈ GW := gw_t (List.mem_of_getElem? (i := 323) (by decide +kernel)) rfl
set_option maxRecDepth 100000 in
theorem q_324 : (.instanceMethod yX3_cheapestWay) ∈ GW := gw_t (List.mem_of_getElem? (i := 324) (by decide +kernel)) rfl
set_option maxRecDepth 100000 in
theorem q_325 : (.selects RX3 yX3_cheapestWay yX3_cheapestWay) ∈ GW := gw_t (List.mem_of_getElem? (i := 325) (by decide +kernel)) rfl
set_option maxRecDepth 100000 in
theorem q_326 : (.code yX3_cheapestWay cX3_cheapestWay 7 (some .int)) ∈ GW := gw_t (List.mem_of_getElem? (i := 326) (by decide +kernel)) rfl
set_option maxRecDepth 100000 in
theorem q_327 : (.methodLink RX3 143 yX3_makeRoomFor) ∈ GW := gw_t (List.mem_of_getElem? (i := 327) (by decide +kernel)) rfl
set_option maxRecDepth 100000 in
theorem q_328 : (.instanceMethod yX3_makeRoomFor) ∈ GW := gw_t (List.mem_of_getElem? (i := 328) (by decide +kernel)) rfl
set_option maxRecDepth 100000 in
theorem q_329 : (.selects RX3 yX3_makeRoomFor yX3_makeRoomFor) ∈ GW := gw_t (List.mem_of_getElem? (i := 329) (by decide +kernel)) rfl
set_option maxRecDepth 100000 in
theorem q_330 : (.code yX3_makeRoomFor cX3_makeRoomFor 2 none) ∈ GW := gw_t (List.mem_of_getElem? (i := 330) (by decide +kernel)) rfl
set_option maxRecDepth 100000 in
theorem q_331 : (.methodLink RX3 167 yX3_lacksRoomFor) ∈ GW := gw_t (List.mem_of_getElem? (i := 331) (by decide +kernel)) rfl
set_option maxRecDepth 100000 in
theorem q_332 : (.instanceMethod yX3_lacksRoomFor) ∈ GW := gw_t (List.mem_of_getElem? (i := 332) (by decide +kernel)) rfl
set_option maxRecDepth 100000 in
theorem q_333 : (.selects RX3 yX3_lacksRoomFor yX3_lacksRoomFor) ∈ GW := gw_t (List.mem_of_getElem? (i := 333) (by decide +kernel)) rfl
set_option maxRecDepth 100000 in
theorem q_334 : (.code yX3_lacksRoomFor cX3_lacksRoomFor 2 (some .boolean)) ∈ GW := gw_t (List.mem_of_getElem? (i := 334) (by decide +kernel)) rfl
set_option maxRecDepth 100000 in
theorem q_335 : (.methodLink RX3 164 yX3_keptPlans) ∈ GW := gw_t (List.mem_of_getElem? (i := 335) (by decide +kernel)) rfl
set_option maxRecDepth 100000 in
theorem q_336 : (.instanceMethod yX3_keptPlans) ∈ GW := gw_t (List.mem_of_getElem? (i := 336) (by decide +kernel)) rfl
set_option maxRecDepth 100000 in
theorem q_337 : (.selects RX3 yX3_keptPlans yX3_keptPlans) ∈ GW := gw_t (List.mem_of_getElem? (i := 337) (by decide +kernel)) rfl
set_option maxRecDepth 100000 in
theorem q_338 : (.code yX3_keptPlans cX3_keptPlans 3 (some .int)) ∈ GW := gw_t (List.mem_of_getElem? (i := 338) (by decide +kernel)) rfl
set_option maxRecDepth 100000 in
theorem q_339 : (.methodLink RX3 173 yX3_crowdOutDownTo) ∈ GW := gw_t (List.mem_of_getElem? (i := 339) (by decide +kernel)) rfl
set_option maxRecDepth 100000 in
theorem q_340 : (.instanceMethod yX3_crowdOutDownTo) ∈ GW := gw_t (List.mem_of_getElem? (i := 340) (by decide +kernel)) rfl
set_option maxRecDepth 100000 in
theorem q_341 : (.selects RX3 yX3_crowdOutDownTo yX3_crowdOutDownTo) ∈ GW := gw_t (List.mem_of_getElem? (i := 341) (by decide +kernel)) rfl
set_option maxRecDepth 100000 in
theorem q_342 : (.code yX3_crowdOutDownTo cX3_crowdOutDownTo 5 none) ∈ GW := gw_t (List.mem_of_getElem? (i := 342) (by decide +kernel)) rfl
set_option maxRecDepth 100000 in
theorem q_343 : (.methodLink RX3 170 yX3_oldestUnpinned) ∈ GW := gw_t (List.mem_of_getElem? (i := 343) (by decide +kernel)) rfl
set_option maxRecDepth 100000 in
theorem q_344 : (.instanceMethod yX3_oldestUnpinned) ∈ GW := gw_t (List.mem_of_getElem? (i := 344) (by decide +kernel)) rfl
set_option maxRecDepth 100000 in
theorem q_345 : (.selects RX3 yX3_oldestUnpinned yX3_oldestUnpinned) ∈ GW := gw_t (List.mem_of_getElem? (i := 345) (by decide +kernel)) rfl
set_option maxRecDepth 100000 in
theorem q_346 : (.code yX3_oldestUnpinned cX3_oldestUnpinned 6 (some .int)) ∈ GW := gw_t (List.mem_of_getElem? (i := 346) (by decide +kernel)) rfl
set_option maxRecDepth 100000 in
theorem q_347 : (.methodLink RX3 147 yX3_couldKeep) ∈ GW := gw_t (List.mem_of_getElem? (i := 347) (by decide +kernel)) rfl
set_option maxRecDepth 100000 in
theorem q_348 : (.instanceMethod yX3_couldKeep) ∈ GW := gw_t (List.mem_of_getElem? (i := 348) (by decide +kernel)) rfl
set_option maxRecDepth 100000 in
theorem q_349 : (.selects RX3 yX3_couldKeep yX3_couldKeep) ∈ GW := gw_t (List.mem_of_getElem? (i := 349) (by decide +kernel)) rfl
set_option maxRecDepth 100000 in
theorem q_350 : (.code yX3_couldKeep cX3_couldKeep 2 (some .boolean)) ∈ GW := gw_t (List.mem_of_getElem? (i := 350) (by decide +kernel)) rfl
set_option maxRecDepth 100000 in
theorem q_351 : (.methodLink RX3 160 yX3_pinnedPlans) ∈ GW := gw_t (List.mem_of_getElem? (i := 351) (by decide +kernel)) rfl
set_option maxRecDepth 100000 in
theorem q_352 : (.instanceMethod yX3_pinnedPlans) ∈ GW := gw_t (List.mem_of_getElem? (i := 352) (by decide +kernel)) rfl
set_option maxRecDepth 100000 in
theorem q_353 : (.selects RX3 yX3_pinnedPlans yX3_pinnedPlans) ∈ GW := gw_t (List.mem_of_getElem? (i := 353) (by decide +kernel)) rfl
set_option maxRecDepth 100000 in
theorem q_354 : (.code yX3_pinnedPlans cX3_pinnedPlans 3 (some .int)) ∈ GW := gw_t (List.mem_of_getElem? (i := 354) (by decide +kernel)) rfl
set_option maxRecDepth 100000 in
theorem q_355 : (.methodLink RX3 150 yX3_place) ∈ GW := gw_t (List.mem_of_getElem? (i := 355) (by decide +kernel)) rfl
set_option maxRecDepth 100000 in
theorem q_356 : (.instanceMethod yX3_place) ∈ GW := gw_t (List.mem_of_getElem? (i := 356) (by decide +kernel)) rfl
set_option maxRecDepth 100000 in
theorem q_357 : (.selects RX3 yX3_place yX3_place) ∈ GW := gw_t (List.mem_of_getElem? (i := 357) (by decide +kernel)) rfl
set_option maxRecDepth 100000 in
theorem q_358 : (.code yX3_place cX3_place 7 none) ∈ GW := gw_t (List.mem_of_getElem? (i := 358) (by decide +kernel)) rfl
set_option maxRecDepth 100000 in
theorem q_359 : (.methodLink RL 67 yX5_askAll) ∈ GW := gw_t (List.mem_of_getElem? (i := 359) (by decide +kernel)) rfl
set_option maxRecDepth 100000 in
theorem q_360 : (.instanceMethod yX5_askAll) ∈ GW := gw_t (List.mem_of_getElem? (i := 360) (by decide +kernel)) rfl
set_option maxRecDepth 100000 in
theorem q_361 : (.selects RX5 yX5_askAll yX5_askAll) ∈ GW := gw_t (List.mem_of_getElem? (i := 361) (by decide +kernel)) rfl
set_option maxRecDepth 100000 in
theorem q_362 : (.code yX5_askAll cX5_askAll 5 (some .int)) ∈ GW := gw_t (List.mem_of_getElem? (i := 362) (by decide +kernel)) rfl
set_option maxRecDepth 100000 in
theorem q_363 : (.methodLink RX5 73 yX2_read) ∈ GW := gw_t (List.mem_of_getElem? (i := 363) (by decide +kernel)) rfl
set_option maxRecDepth 100000 in
theorem q_364 : (.instanceMethod yX2_read) ∈ GW := gw_t (List.mem_of_getElem? (i := 364) (by decide +kernel)) rfl
set_option maxRecDepth 100000 in
theorem q_365 : (.selects RX2 yX2_read yX2_read) ∈ GW := gw_t (List.mem_of_getElem? (i := 365) (by decide +kernel)) rfl
set_option maxRecDepth 100000 in
theorem q_366 : (.code yX2_read cX2_read 1 (some .int)) ∈ GW := gw_t (List.mem_of_getElem? (i := 366) (by decide +kernel)) rfl
set_option maxRecDepth 100000 in
theorem q_367 : (.methodLink RX2 32 yX2_readLine) ∈ GW := gw_t (List.mem_of_getElem? (i := 367) (by decide +kernel)) rfl
set_option maxRecDepth 100000 in
theorem q_368 : (.instanceMethod yX2_readLine) ∈ GW := gw_t (List.mem_of_getElem? (i := 368) (by decide +kernel)) rfl
set_option maxRecDepth 100000 in
theorem q_369 : (.selects RX2 yX2_readLine yX2_readLine) ∈ GW := gw_t (List.mem_of_getElem? (i := 369) (by decide +kernel)) rfl
set_option maxRecDepth 100000 in
theorem q_370 : (.code yX2_readLine cX2_readLine 5 (some .boolean)) ∈ GW := gw_t (List.mem_of_getElem? (i := 370) (by decide +kernel)) rfl
set_option maxRecDepth 100000 in
theorem q_371 : (.methodLink RX2 45 yX2_readWord) ∈ GW := gw_t (List.mem_of_getElem? (i := 371) (by decide +kernel)) rfl
set_option maxRecDepth 100000 in
theorem q_372 : (.instanceMethod yX2_readWord) ∈ GW := gw_t (List.mem_of_getElem? (i := 372) (by decide +kernel)) rfl
set_option maxRecDepth 100000 in
theorem q_373 : (.selects RX2 yX2_readWord yX2_readWord) ∈ GW := gw_t (List.mem_of_getElem? (i := 373) (by decide +kernel)) rfl
set_option maxRecDepth 100000 in
theorem q_374 : (.code yX2_readWord cX2_readWord 1 (some .int)) ∈ GW := gw_t (List.mem_of_getElem? (i := 374) (by decide +kernel)) rfl
set_option maxRecDepth 100000 in
theorem q_375 : (.methodLink RX2 53 yX2_sign) ∈ GW := gw_t (List.mem_of_getElem? (i := 375) (by decide +kernel)) rfl
set_option maxRecDepth 100000 in
theorem q_376 : (.instanceMethod yX2_sign) ∈ GW := gw_t (List.mem_of_getElem? (i := 376) (by decide +kernel)) rfl
set_option maxRecDepth 100000 in
theorem q_377 : (.selects RX2 yX2_sign yX2_sign) ∈ GW := gw_t (List.mem_of_getElem? (i := 377) (by decide +kernel)) rfl
set_option maxRecDepth 100000 in
theorem q_378 : (.code yX2_sign cX2_sign 1 (some .int)) ∈ GW := gw_t (List.mem_of_getElem? (i := 378) (by decide +kernel)) rfl
set_option maxRecDepth 100000 in
theorem q_379 : (.methodLink RX2 56 yX2_readKeyOrKeys) ∈ GW := gw_t (List.mem_of_getElem? (i := 379) (by decide +kernel)) rfl
set_option maxRecDepth 100000 in
theorem q_380 : (.instanceMethod yX2_readKeyOrKeys) ∈ GW := gw_t (List.mem_of_getElem? (i := 380) (by decide +kernel)) rfl
set_option maxRecDepth 100000 in
theorem q_381 : (.selects RX2 yX2_readKeyOrKeys yX2_readKeyOrKeys) ∈ GW := gw_t (List.mem_of_getElem? (i := 381) (by decide +kernel)) rfl
set_option maxRecDepth 100000 in
theorem q_382 : (.code yX2_readKeyOrKeys cX2_readKeyOrKeys 1 (some .int)) ∈ GW := gw_t (List.mem_of_getElem? (i := 382) (by decide +kernel)) rfl
set_option maxRecDepth 100000 in
theorem q_384 : (.methodLink RX2 41 yX2_pass) ∈ GW := gw_t (List.mem_of_getElem? (i := 384) (by decide +kernel)) rfl
set_option maxRecDepth 100000 in
theorem q_385 : (.instanceMethod yX2_pass) ∈ GW := gw_t (List.mem_of_getElem? (i := 385) (by decide +kernel)) rfl
set_option maxRecDepth 100000 in
theorem q_386 : (.selects RX2 yX2_pass yX2_pass) ∈ GW := gw_t (List.mem_of_getElem? (i := 386) (by decide +kernel)) rfl
set_option maxRecDepth 100000 in
theorem q_387 : (.code yX2_pass cX2_pass 3 (some .boolean)) ∈ GW := gw_t (List.mem_of_getElem? (i := 387) (by decide +kernel)) rfl
set_option maxRecDepth 100000 in
theorem q_388 : (.methodLink RX2 74 yJ0_length_8abf5) ∈ GW := gw_t (List.mem_of_getElem? (i := 388) (by decide +kernel)) rfl
set_option maxRecDepth 100000 in
theorem q_389 : (.instanceMethod yJ0_length_8abf5) ∈ GW := gw_t (List.mem_of_getElem? (i := 389) (by decide +kernel)) rfl
set_option maxRecDepth 100000 in
theorem q_390 : (.selects RJ0 yJ0_length_8abf5 yJ0_length_8abf5) ∈ GW := gw_t (List.mem_of_getElem? (i := 390) (by decide +kernel)) rfl
set_option maxRecDepth 100000 in
theorem q_391 : (.code yJ0_length_8abf5 cJ0_length_8abf5 1 (some .int)) ∈ GW := gw_t (List.mem_of_getElem? (i := 391) (by decide +kernel)) rfl
set_option maxRecDepth 100000 in
theorem q_392 : (.methodLink RJ0 335 yJ0_coder_7d493) ∈ GW := gw_t (List.mem_of_getElem? (i := 392) (by decide +kernel)) rfl
set_option maxRecDepth 100000 in
theorem q_393 : (.instanceMethod yJ0_coder_7d493) ∈ GW := gw_t (List.mem_of_getElem? (i := 393) (by decide +kernel)) rfl
set_option maxRecDepth 100000 in
theorem q_394 : (.selects RJ0 yJ0_coder_7d493 yJ0_coder_7d493) ∈ GW := gw_t (List.mem_of_getElem? (i := 394) (by decide +kernel)) rfl
set_option maxRecDepth 100000 in
theorem q_395 : (.code yJ0_coder_7d493 cJ0_coder_7d493 1 (some .byte)) ∈ GW := gw_t (List.mem_of_getElem? (i := 395) (by decide +kernel)) rfl
set_option maxRecDepth 100000 in
theorem q_396 : (.fieldLink RJ0 38 "java/lang/String" "COMPACT_STRINGS" "Z") ∈ GW := gw_t (List.mem_of_getElem? (i := 396) (by decide +kernel)) rfl
set_option maxRecDepth 100000 in
theorem q_398 : (.methodLink RX2 78 yJ0_charAt_5068e) ∈ GW := gw_t (List.mem_of_getElem? (i := 398) (by decide +kernel)) rfl
set_option maxRecDepth 100000 in
theorem q_399 : (.instanceMethod yJ0_charAt_5068e) ∈ GW := gw_t (List.mem_of_getElem? (i := 399) (by decide +kernel)) rfl
set_option maxRecDepth 100000 in
theorem q_400 : (.selects RJ0 yJ0_charAt_5068e yJ0_charAt_5068e) ∈ GW := gw_t (List.mem_of_getElem? (i := 400) (by decide +kernel)) rfl
set_option maxRecDepth 100000 in
theorem q_401 : (.code yJ0_charAt_5068e cJ0_charAt_5068e 2 (some .char)) ∈ GW := gw_t (List.mem_of_getElem? (i := 401) (by decide +kernel)) rfl
set_option maxRecDepth 100000 in
theorem q_402 : (.methodLink RJ0 492 yJ0_isLatin1_aae02) ∈ GW := gw_t (List.mem_of_getElem? (i := 402) (by decide +kernel)) rfl
set_option maxRecDepth 100000 in
theorem q_403 : (.instanceMethod yJ0_isLatin1_aae02) ∈ GW := gw_t (List.mem_of_getElem? (i := 403) (by decide +kernel)) rfl
set_option maxRecDepth 100000 in
theorem q_404 : (.selects RJ0 yJ0_isLatin1_aae02 yJ0_isLatin1_aae02) ∈ GW := gw_t (List.mem_of_getElem? (i := 404) (by decide +kernel)) rfl
set_option maxRecDepth 100000 in
theorem q_405 : (.code yJ0_isLatin1_aae02 cJ0_isLatin1_aae02 1 (some .boolean)) ∈ GW := gw_t (List.mem_of_getElem? (i := 405) (by decide +kernel)) rfl
set_option maxRecDepth 100000 in
theorem q_406 : (.methodLink RJ0 495 yJ1_charAt_3b067) ∈ GW := gw_t (List.mem_of_getElem? (i := 406) (by decide +kernel)) rfl
set_option maxRecDepth 100000 in
theorem q_407 : (.static yJ1_charAt_3b067) ∈ GW := gw_t (List.mem_of_getElem? (i := 407) (by decide +kernel)) rfl
set_option maxRecDepth 100000 in
theorem q_408 : (.code yJ1_charAt_3b067 cJ1_charAt_3b067 2 (some .char)) ∈ GW := gw_t (List.mem_of_getElem? (i := 408) (by decide +kernel)) rfl
set_option maxRecDepth 100000 in
theorem q_409 : (.methodLink RJ1 9 yJ0_checkIndex_df160) ∈ GW := gw_t (List.mem_of_getElem? (i := 409) (by decide +kernel)) rfl
set_option maxRecDepth 100000 in
theorem q_410 : (.static yJ0_checkIndex_df160) ∈ GW := gw_t (List.mem_of_getElem? (i := 410) (by decide +kernel)) rfl
set_option maxRecDepth 100000 in
theorem q_411 : (.code yJ0_checkIndex_df160 cJ0_checkIndex_df160 2 none) ∈ GW := gw_t (List.mem_of_getElem? (i := 411) (by decide +kernel)) rfl
set_option maxRecDepth 100000 in
theorem q_412 : (.fieldLink RJ0 1053 "jdk/internal/util/Preconditions" "SIOOBE_FORMATTER" "Ljava/util/function/BiFunction;") ∈ GW := gw_t (List.mem_of_getElem? (i := 412) (by decide +kernel)) rfl
set_option maxRecDepth 100000 in
theorem q_414 : (.methodLink RJ0 1059 yJ3_checkIndex_8e157) ∈ GW := gw_t (List.mem_of_getElem? (i := 414) (by decide +kernel)) rfl
set_option maxRecDepth 100000 in
theorem q_415 : (.static yJ3_checkIndex_8e157) ∈ GW := gw_t (List.mem_of_getElem? (i := 415) (by decide +kernel)) rfl
set_option maxRecDepth 100000 in
theorem q_416 : (.code yJ3_checkIndex_8e157 cJ3_checkIndex_8e157 3 (some .int)) ∈ GW := gw_t (List.mem_of_getElem? (i := 416) (by decide +kernel)) rfl
set_option maxRecDepth 100000 in
theorem q_417 : (.methodLink RJ0 498 yJ2_charAt_3b067) ∈ GW := gw_t (List.mem_of_getElem? (i := 417) (by decide +kernel)) rfl
set_option maxRecDepth 100000 in
theorem q_418 : (.static yJ2_charAt_3b067) ∈ GW := gw_t (List.mem_of_getElem? (i := 418) (by decide +kernel)) rfl
set_option maxRecDepth 100000 in
theorem q_419 : (.code yJ2_charAt_3b067 cJ2_charAt_3b067 2 (some .char)) ∈ GW := gw_t (List.mem_of_getElem? (i := 419) (by decide +kernel)) rfl
set_option maxRecDepth 100000 in
theorem q_420 : (.methodLink RJ2 67 yJ2_checkIndex_2214a) ∈ GW := gw_t (List.mem_of_getElem? (i := 420) (by decide +kernel)) rfl
set_option maxRecDepth 100000 in
theorem q_421 : (.static yJ2_checkIndex_2214a) ∈ GW := gw_t (List.mem_of_getElem? (i := 421) (by decide +kernel)) rfl
set_option maxRecDepth 100000 in
theorem q_422 : (.code yJ2_checkIndex_2214a cJ2_checkIndex_2214a 2 none) ∈ GW := gw_t (List.mem_of_getElem? (i := 422) (by decide +kernel)) rfl
set_option maxRecDepth 100000 in
theorem q_423 : (.methodLink RJ2 48 yJ2_length_9d52b) ∈ GW := gw_t (List.mem_of_getElem? (i := 423) (by decide +kernel)) rfl
set_option maxRecDepth 100000 in
theorem q_424 : (.static yJ2_length_9d52b) ∈ GW := gw_t (List.mem_of_getElem? (i := 424) (by decide +kernel)) rfl
set_option maxRecDepth 100000 in
theorem q_425 : (.code yJ2_length_9d52b cJ2_length_9d52b 1 (some .int)) ∈ GW := gw_t (List.mem_of_getElem? (i := 425) (by decide +kernel)) rfl
set_option maxRecDepth 100000 in
theorem q_426 : (.methodLink RJ2 414 yJ0_checkIndex_df160) ∈ GW := gw_t (List.mem_of_getElem? (i := 426) (by decide +kernel)) rfl
set_option maxRecDepth 100000 in
theorem q_427 : (.methodLink RJ2 71 yJ2_getChar_3b067) ∈ GW := gw_t (List.mem_of_getElem? (i := 427) (by decide +kernel)) rfl
set_option maxRecDepth 100000 in
theorem q_428 : (.static yJ2_getChar_3b067) ∈ GW := gw_t (List.mem_of_getElem? (i := 428) (by decide +kernel)) rfl
set_option maxRecDepth 100000 in
theorem q_429 : (.code yJ2_getChar_3b067 cJ2_getChar_3b067 2 (some .char)) ∈ GW := gw_t (List.mem_of_getElem? (i := 429) (by decide +kernel)) rfl
set_option maxRecDepth 100000 in
theorem q_430 : (.fieldLink RJ2 44 "java/lang/StringUTF16" "$assertionsDisabled" "Z") ∈ GW := gw_t (List.mem_of_getElem? (i := 430) (by decide +kernel)) rfl
set_option maxRecDepth 100000 in
theorem q_432 : (.fieldLink RJ2 59 "java/lang/StringUTF16" "HI_BYTE_SHIFT" "I") ∈ GW := gw_t (List.mem_of_getElem? (i := 432) (by decide +kernel)) rfl
set_option maxRecDepth 100000 in
theorem q_434 : (.fieldLink RJ2 63 "java/lang/StringUTF16" "LO_BYTE_SHIFT" "I") ∈ GW := gw_t (List.mem_of_getElem? (i := 434) (by decide +kernel)) rfl
set_option maxRecDepth 100000 in
theorem q_440 : (.methodLink RX2 49 yX2_readNumber) ∈ GW := gw_t (List.mem_of_getElem? (i := 440) (by decide +kernel)) rfl
set_option maxRecDepth 100000 in
theorem q_441 : (.instanceMethod yX2_readNumber) ∈ GW := gw_t (List.mem_of_getElem? (i := 441) (by decide +kernel)) rfl
set_option maxRecDepth 100000 in
theorem q_442 : (.selects RX2 yX2_readNumber yX2_readNumber) ∈ GW := gw_t (List.mem_of_getElem? (i := 442) (by decide +kernel)) rfl
set_option maxRecDepth 100000 in
theorem q_443 : (.code yX2_readNumber cX2_readNumber 5 (some .int)) ∈ GW := gw_t (List.mem_of_getElem? (i := 443) (by decide +kernel)) rfl
set_option maxRecDepth 100000 in
theorem q_445 : (.methodLink RX2 71 yX2_digit) ∈ GW := gw_t (List.mem_of_getElem? (i := 445) (by decide +kernel)) rfl
set_option maxRecDepth 100000 in
theorem q_446 : (.instanceMethod yX2_digit) ∈ GW := gw_t (List.mem_of_getElem? (i := 446) (by decide +kernel)) rfl
set_option maxRecDepth 100000 in
theorem q_447 : (.selects RX2 yX2_digit yX2_digit) ∈ GW := gw_t (List.mem_of_getElem? (i := 447) (by decide +kernel)) rfl
set_option maxRecDepth 100000 in
theorem q_448 : (.code yX2_digit cX2_digit 2 (some .int)) ∈ GW := gw_t (List.mem_of_getElem? (i := 448) (by decide +kernel)) rfl
set_option maxRecDepth 100000 in
theorem q_450 : (.arrayClass .byte) ∈ GW := gw_t (List.mem_of_getElem? (i := 450) (by decide +kernel)) rfl
set_option maxRecDepth 100000 in
theorem q_451 : (.methodLink RL 15 yX5_pin) ∈ GW := gw_t (List.mem_of_getElem? (i := 451) (by decide +kernel)) rfl
set_option maxRecDepth 100000 in
theorem q_452 : (.instanceMethod yX5_pin) ∈ GW := gw_t (List.mem_of_getElem? (i := 452) (by decide +kernel)) rfl
set_option maxRecDepth 100000 in
theorem q_453 : (.selects RX5 yX5_pin yX5_pin) ∈ GW := gw_t (List.mem_of_getElem? (i := 453) (by decide +kernel)) rfl
set_option maxRecDepth 100000 in
theorem q_454 : (.code yX5_pin cX5_pin 3 (some .int)) ∈ GW := gw_t (List.mem_of_getElem? (i := 454) (by decide +kernel)) rfl
set_option maxRecDepth 100000 in
theorem q_455 : (.methodLink RX5 89 yX5_hasPlan) ∈ GW := gw_t (List.mem_of_getElem? (i := 455) (by decide +kernel)) rfl
set_option maxRecDepth 100000 in
theorem q_457 : (.instanceMethod yX5_hasPlan) ∈ GW := gw_t (List.mem_of_getElem? (i := 457) (by decide +kernel)) rfl
set_option maxRecDepth 100000 in
theorem q_458 : (.code yX5_hasPlan cX5_hasPlan 2 (some .boolean)) ∈ GW := gw_t (List.mem_of_getElem? (i := 458) (by decide +kernel)) rfl
set_option maxRecDepth 100000 in
theorem q_459 : (.methodLink RX5 101 yX3_pinnedPlans) ∈ GW := gw_t (List.mem_of_getElem? (i := 459) (by decide +kernel)) rfl
set_option maxRecDepth 100000 in
theorem q_460 : (.methodLink RL 19 yX5_throwOut) ∈ GW := gw_t (List.mem_of_getElem? (i := 460) (by decide +kernel)) rfl
set_option maxRecDepth 100000 in
theorem q_461 : (.instanceMethod yX5_throwOut) ∈ GW := gw_t (List.mem_of_getElem? (i := 461) (by decide +kernel)) rfl
set_option maxRecDepth 100000 in
theorem q_462 : (.selects RX5 yX5_throwOut yX5_throwOut) ∈ GW := gw_t (List.mem_of_getElem? (i := 462) (by decide +kernel)) rfl
set_option maxRecDepth 100000 in
theorem q_463 : (.code yX5_throwOut cX5_throwOut 2 (some .int)) ∈ GW := gw_t (List.mem_of_getElem? (i := 463) (by decide +kernel)) rfl
set_option maxRecDepth 100000 in
theorem q_464 : (.methodLink RX5 107 yX3_keptPlans) ∈ GW := gw_t (List.mem_of_getElem? (i := 464) (by decide +kernel)) rfl
set_option maxRecDepth 100000 in
theorem q_465 : (.methodLink RL 23 yX5_make) ∈ GW := gw_t (List.mem_of_getElem? (i := 465) (by decide +kernel)) rfl
set_option maxRecDepth 100000 in
theorem q_466 : (.instanceMethod yX5_make) ∈ GW := gw_t (List.mem_of_getElem? (i := 466) (by decide +kernel)) rfl
set_option maxRecDepth 100000 in
theorem q_467 : (.selects RX5 yX5_make yX5_make) ∈ GW := gw_t (List.mem_of_getElem? (i := 467) (by decide +kernel)) rfl
set_option maxRecDepth 100000 in
theorem q_468 : (.code yX5_make cX5_make 6 (some .int)) ∈ GW := gw_t (List.mem_of_getElem? (i := 468) (by decide +kernel)) rfl
set_option maxRecDepth 100000 in
theorem q_469 : (.methodLink RX5 110 yX5_isWay) ∈ GW := gw_t (List.mem_of_getElem? (i := 469) (by decide +kernel)) rfl
set_option maxRecDepth 100000 in
theorem q_470 : (.static yX5_isWay) ∈ GW := gw_t (List.mem_of_getElem? (i := 470) (by decide +kernel)) rfl
set_option maxRecDepth 100000 in
theorem q_471 : (.code yX5_isWay cX5_isWay 1 (some .boolean)) ∈ GW := gw_t (List.mem_of_getElem? (i := 471) (by decide +kernel)) rfl
set_option maxRecDepth 100000 in
theorem q_472 : (.constant RX5 113 (99999 : Int32)) ∈ GW := gw_t (List.mem_of_getElem? (i := 472) (by decide +kernel)) rfl
set_option maxRecDepth 100000 in
theorem q_473 : (.methodLink RX5 114 yX3_couldKeep) ∈ GW := gw_t (List.mem_of_getElem? (i := 473) (by decide +kernel)) rfl
set_option maxRecDepth 100000 in
theorem q_474 : (.methodLink RX5 117 yX3_makeRoomFor) ∈ GW := gw_t (List.mem_of_getElem? (i := 474) (by decide +kernel)) rfl
set_option maxRecDepth 100000 in
theorem q_475 : (.methodLink RX5 121 yX3_place) ∈ GW := gw_t (List.mem_of_getElem? (i := 475) (by decide +kernel)) rfl
set_option maxRecDepth 100000 in
theorem q_476 : (.methodLink RL 27 yX5_set) ∈ GW := gw_t (List.mem_of_getElem? (i := 476) (by decide +kernel)) rfl
set_option maxRecDepth 100000 in
theorem q_477 : (.instanceMethod yX5_set) ∈ GW := gw_t (List.mem_of_getElem? (i := 477) (by decide +kernel)) rfl
set_option maxRecDepth 100000 in
theorem q_478 : (.selects RX5 yX5_set yX5_set) ∈ GW := gw_t (List.mem_of_getElem? (i := 478) (by decide +kernel)) rfl
set_option maxRecDepth 100000 in
theorem q_479 : (.code yX5_set cX5_set 4 (some .int)) ∈ GW := gw_t (List.mem_of_getElem? (i := 479) (by decide +kernel)) rfl
set_option maxRecDepth 100000 in
theorem q_480 : (.fieldLink RX5 125 "KeptPlans" "LEAST_SETTING" "[I") ∈ GW := gw_t (List.mem_of_getElem? (i := 480) (by decide +kernel)) rfl
set_option maxRecDepth 100000 in
theorem q_482 : (.fieldLink RX5 128 "KeptPlans" "MOST_SETTING" "[I") ∈ GW := gw_t (List.mem_of_getElem? (i := 482) (by decide +kernel)) rfl
set_option maxRecDepth 100000 in
theorem q_484 : (.methodLink RX5 134 yX3_crowdOutDownTo) ∈ GW := gw_t (List.mem_of_getElem? (i := 484) (by decide +kernel)) rfl
set_option maxRecDepth 100000 in
theorem q_485 : (.methodLink RL 61 yX5_undo) ∈ GW := gw_t (List.mem_of_getElem? (i := 485) (by decide +kernel)) rfl
set_option maxRecDepth 100000 in
theorem q_486 : (.instanceMethod yX5_undo) ∈ GW := gw_t (List.mem_of_getElem? (i := 486) (by decide +kernel)) rfl
set_option maxRecDepth 100000 in
theorem q_487 : (.selects RX5 yX5_undo yX5_undo) ∈ GW := gw_t (List.mem_of_getElem? (i := 487) (by decide +kernel)) rfl
set_option maxRecDepth 100000 in
theorem q_488 : (.code yX5_undo cX5_undo 1 (some .int)) ∈ GW := gw_t (List.mem_of_getElem? (i := 488) (by decide +kernel)) rfl
set_option maxRecDepth 100000 in
theorem q_489 : (.methodLink RX5 147 yX0_takeBack) ∈ GW := gw_t (List.mem_of_getElem? (i := 489) (by decide +kernel)) rfl
set_option maxRecDepth 100000 in
theorem q_490 : (.instanceMethod yX0_takeBack) ∈ GW := gw_t (List.mem_of_getElem? (i := 490) (by decide +kernel)) rfl
set_option maxRecDepth 100000 in
theorem q_491 : (.selects RX0 yX0_takeBack yX0_takeBack) ∈ GW := gw_t (List.mem_of_getElem? (i := 491) (by decide +kernel)) rfl
set_option maxRecDepth 100000 in
theorem q_492 : (.code yX0_takeBack cX0_takeBack 2 none) ∈ GW := gw_t (List.mem_of_getElem? (i := 492) (by decide +kernel)) rfl
set_option maxRecDepth 100000 in
theorem q_493 : (.methodLink RL 64 yX5_restore) ∈ GW := gw_t (List.mem_of_getElem? (i := 493) (by decide +kernel)) rfl
set_option maxRecDepth 100000 in
theorem q_494 : (.instanceMethod yX5_restore) ∈ GW := gw_t (List.mem_of_getElem? (i := 494) (by decide +kernel)) rfl
set_option maxRecDepth 100000 in
theorem q_495 : (.selects RX5 yX5_restore yX5_restore) ∈ GW := gw_t (List.mem_of_getElem? (i := 495) (by decide +kernel)) rfl
set_option maxRecDepth 100000 in
theorem q_496 : (.code yX5_restore cX5_restore 1 (some .int)) ∈ GW := gw_t (List.mem_of_getElem? (i := 496) (by decide +kernel)) rfl
set_option maxRecDepth 100000 in
theorem q_497 : (.methodLink RX5 150 yX3_copyFrom) ∈ GW := gw_t (List.mem_of_getElem? (i := 497) (by decide +kernel)) rfl
set_option maxRecDepth 100000 in
theorem q_498 : (.methodLink RL 46 yX5_cost) ∈ GW := gw_t (List.mem_of_getElem? (i := 498) (by decide +kernel)) rfl
set_option maxRecDepth 100000 in
theorem q_499 : (.instanceMethod yX5_cost) ∈ GW := gw_t (List.mem_of_getElem? (i := 499) (by decide +kernel)) rfl
set_option maxRecDepth 100000 in
theorem q_500 : (.selects RX5 yX5_cost yX5_cost) ∈ GW := gw_t (List.mem_of_getElem? (i := 500) (by decide +kernel)) rfl
set_option maxRecDepth 100000 in
theorem q_501 : (.code yX5_cost cX5_cost 4 (some .int)) ∈ GW := gw_t (List.mem_of_getElem? (i := 501) (by decide +kernel)) rfl
set_option maxRecDepth 100000 in
theorem q_502 : (.methodLink RX5 153 yX3_priceBy) ∈ GW := gw_t (List.mem_of_getElem? (i := 502) (by decide +kernel)) rfl
set_option maxRecDepth 100000 in
theorem q_503 : (.methodLink RL 54 yX5_cheapest) ∈ GW := gw_t (List.mem_of_getElem? (i := 503) (by decide +kernel)) rfl
set_option maxRecDepth 100000 in
theorem q_504 : (.instanceMethod yX5_cheapest) ∈ GW := gw_t (List.mem_of_getElem? (i := 504) (by decide +kernel)) rfl
set_option maxRecDepth 100000 in
theorem q_505 : (.selects RX5 yX5_cheapest yX5_cheapest) ∈ GW := gw_t (List.mem_of_getElem? (i := 505) (by decide +kernel)) rfl
set_option maxRecDepth 100000 in
theorem q_506 : (.code yX5_cheapest cX5_cheapest 3 (some .int)) ∈ GW := gw_t (List.mem_of_getElem? (i := 506) (by decide +kernel)) rfl
set_option maxRecDepth 100000 in
theorem q_507 : (.methodLink RX5 157 yX3_cheapestWay) ∈ GW := gw_t (List.mem_of_getElem? (i := 507) (by decide +kernel)) rfl
set_option maxRecDepth 100000 in
theorem q_508 : (.methodLink RL 34 yX5_plan) ∈ GW := gw_t (List.mem_of_getElem? (i := 508) (by decide +kernel)) rfl
set_option maxRecDepth 100000 in
theorem q_509 : (.instanceMethod yX5_plan) ∈ GW := gw_t (List.mem_of_getElem? (i := 509) (by decide +kernel)) rfl
set_option maxRecDepth 100000 in
theorem q_510 : (.selects RX5 yX5_plan yX5_plan) ∈ GW := gw_t (List.mem_of_getElem? (i := 510) (by decide +kernel)) rfl
set_option maxRecDepth 100000 in
theorem q_511 : (.code yX5_plan cX5_plan 4 (some .int)) ∈ GW := gw_t (List.mem_of_getElem? (i := 511) (by decide +kernel)) rfl
set_option maxRecDepth 100000 in
theorem q_512 : (.methodLink RX5 181 yX3_isStale) ∈ GW := gw_t (List.mem_of_getElem? (i := 512) (by decide +kernel)) rfl
set_option maxRecDepth 100000 in
theorem q_513 : (.instanceMethod yX3_isStale) ∈ GW := gw_t (List.mem_of_getElem? (i := 513) (by decide +kernel)) rfl
set_option maxRecDepth 100000 in
theorem q_514 : (.selects RX3 yX3_isStale yX3_isStale) ∈ GW := gw_t (List.mem_of_getElem? (i := 514) (by decide +kernel)) rfl
set_option maxRecDepth 100000 in
theorem q_515 : (.code yX3_isStale cX3_isStale 2 (some .boolean)) ∈ GW := gw_t (List.mem_of_getElem? (i := 515) (by decide +kernel)) rfl
set_option maxRecDepth 100000 in
theorem q_516 : (.methodLink RL 37 yX5_reason) ∈ GW := gw_t (List.mem_of_getElem? (i := 516) (by decide +kernel)) rfl
set_option maxRecDepth 100000 in
theorem q_517 : (.instanceMethod yX5_reason) ∈ GW := gw_t (List.mem_of_getElem? (i := 517) (by decide +kernel)) rfl
set_option maxRecDepth 100000 in
theorem q_518 : (.selects RX5 yX5_reason yX5_reason) ∈ GW := gw_t (List.mem_of_getElem? (i := 518) (by decide +kernel)) rfl
set_option maxRecDepth 100000 in
theorem q_519 : (.code yX5_reason cX5_reason 3 (some .int)) ∈ GW := gw_t (List.mem_of_getElem? (i := 519) (by decide +kernel)) rfl
set_option maxRecDepth 100000 in
theorem q_520 : (.methodLink RX5 191 yX3_whyNotUsed) ∈ GW := gw_t (List.mem_of_getElem? (i := 520) (by decide +kernel)) rfl
set_option maxRecDepth 100000 in
theorem q_521 : (.methodLink RL 80 yX5_ifAsked) ∈ GW := gw_t (List.mem_of_getElem? (i := 521) (by decide +kernel)) rfl
set_option maxRecDepth 100000 in
theorem q_522 : (.instanceMethod yX5_ifAsked) ∈ GW := gw_t (List.mem_of_getElem? (i := 522) (by decide +kernel)) rfl
set_option maxRecDepth 100000 in
theorem q_523 : (.selects RX5 yX5_ifAsked yX5_ifAsked) ∈ GW := gw_t (List.mem_of_getElem? (i := 523) (by decide +kernel)) rfl
set_option maxRecDepth 100000 in
theorem q_524 : (.code yX5_ifAsked cX5_ifAsked 9 (some .int)) ∈ GW := gw_t (List.mem_of_getElem? (i := 524) (by decide +kernel)) rfl
set_option maxRecDepth 100000 in
theorem q_525 : (.methodLink RX5 194 yX3_isTooDear) ∈ GW := gw_t (List.mem_of_getElem? (i := 525) (by decide +kernel)) rfl
set_option maxRecDepth 100000 in
theorem q_526 : (.methodLink RX5 197 yX3_firstCrowdedOutBy) ∈ GW := gw_t (List.mem_of_getElem? (i := 526) (by decide +kernel)) rfl
set_option maxRecDepth 100000 in
theorem q_527 : (.instanceMethod yX3_firstCrowdedOutBy) ∈ GW := gw_t (List.mem_of_getElem? (i := 527) (by decide +kernel)) rfl
set_option maxRecDepth 100000 in
theorem q_528 : (.selects RX3 yX3_firstCrowdedOutBy yX3_firstCrowdedOutBy) ∈ GW := gw_t (List.mem_of_getElem? (i := 528) (by decide +kernel)) rfl
set_option maxRecDepth 100000 in
theorem q_529 : (.code yX3_firstCrowdedOutBy cX3_firstCrowdedOutBy 2 (some .int)) ∈ GW := gw_t (List.mem_of_getElem? (i := 529) (by decide +kernel)) rfl
set_option maxRecDepth 100000 in
theorem q_530 : (.methodLink RL 57 yX5_reach) ∈ GW := gw_t (List.mem_of_getElem? (i := 530) (by decide +kernel)) rfl
set_option maxRecDepth 100000 in
theorem q_531 : (.instanceMethod yX5_reach) ∈ GW := gw_t (List.mem_of_getElem? (i := 531) (by decide +kernel)) rfl
set_option maxRecDepth 100000 in
theorem q_532 : (.selects RX5 yX5_reach yX5_reach) ∈ GW := gw_t (List.mem_of_getElem? (i := 532) (by decide +kernel)) rfl
set_option maxRecDepth 100000 in
theorem q_533 : (.code yX5_reach cX5_reach 5 (some .int)) ∈ GW := gw_t (List.mem_of_getElem? (i := 533) (by decide +kernel)) rfl
set_option maxRecDepth 100000 in
theorem q_534 : (.methodLink RL 50 yX5_oldest) ∈ GW := gw_t (List.mem_of_getElem? (i := 534) (by decide +kernel)) rfl
set_option maxRecDepth 100000 in
theorem q_535 : (.instanceMethod yX5_oldest) ∈ GW := gw_t (List.mem_of_getElem? (i := 535) (by decide +kernel)) rfl
set_option maxRecDepth 100000 in
theorem q_536 : (.selects RX5 yX5_oldest yX5_oldest) ∈ GW := gw_t (List.mem_of_getElem? (i := 536) (by decide +kernel)) rfl
set_option maxRecDepth 100000 in
theorem q_537 : (.code yX5_oldest cX5_oldest 1 (some .int)) ∈ GW := gw_t (List.mem_of_getElem? (i := 537) (by decide +kernel)) rfl
set_option maxRecDepth 100000 in
theorem q_538 : (.methodLink RX5 204 yX3_oldestUnpinned) ∈ GW := gw_t (List.mem_of_getElem? (i := 538) (by decide +kernel)) rfl
set_option maxRecDepth 100000 in
theorem q_539 : (.methodLink RL 40 yX5_tableOf) ∈ GW := gw_t (List.mem_of_getElem? (i := 539) (by decide +kernel)) rfl
set_option maxRecDepth 100000 in
theorem q_540 : (.instanceMethod yX5_tableOf) ∈ GW := gw_t (List.mem_of_getElem? (i := 540) (by decide +kernel)) rfl
set_option maxRecDepth 100000 in
theorem q_541 : (.selects RX5 yX5_tableOf yX5_tableOf) ∈ GW := gw_t (List.mem_of_getElem? (i := 541) (by decide +kernel)) rfl
set_option maxRecDepth 100000 in
theorem q_542 : (.code yX5_tableOf cX5_tableOf 4 (some .int)) ∈ GW := gw_t (List.mem_of_getElem? (i := 542) (by decide +kernel)) rfl
set_option maxRecDepth 100000 in
theorem q_543 : (.methodLink RX5 207 yX3_keptPlansOf) ∈ GW := gw_t (List.mem_of_getElem? (i := 543) (by decide +kernel)) rfl
set_option maxRecDepth 100000 in
theorem q_544 : (.instanceMethod yX3_keptPlansOf) ∈ GW := gw_t (List.mem_of_getElem? (i := 544) (by decide +kernel)) rfl
set_option maxRecDepth 100000 in
theorem q_545 : (.selects RX3 yX3_keptPlansOf yX3_keptPlansOf) ∈ GW := gw_t (List.mem_of_getElem? (i := 545) (by decide +kernel)) rfl
set_option maxRecDepth 100000 in
theorem q_546 : (.code yX3_keptPlansOf cX3_keptPlansOf 4 (some .int)) ∈ GW := gw_t (List.mem_of_getElem? (i := 546) (by decide +kernel)) rfl
set_option maxRecDepth 100000 in
theorem q_547 : (.methodLink RL 43 yX5_count) ∈ GW := gw_t (List.mem_of_getElem? (i := 547) (by decide +kernel)) rfl
set_option maxRecDepth 100000 in
theorem q_548 : (.instanceMethod yX5_count) ∈ GW := gw_t (List.mem_of_getElem? (i := 548) (by decide +kernel)) rfl
set_option maxRecDepth 100000 in
theorem q_549 : (.selects RX5 yX5_count yX5_count) ∈ GW := gw_t (List.mem_of_getElem? (i := 549) (by decide +kernel)) rfl
set_option maxRecDepth 100000 in
theorem q_550 : (.code yX5_count cX5_count 2 (some .int)) ∈ GW := gw_t (List.mem_of_getElem? (i := 550) (by decide +kernel)) rfl
set_option maxRecDepth 100000 in
theorem q_551 : (.methodLink RX5 214 yX3_stalePlans) ∈ GW := gw_t (List.mem_of_getElem? (i := 551) (by decide +kernel)) rfl
set_option maxRecDepth 100000 in
theorem q_552 : (.instanceMethod yX3_stalePlans) ∈ GW := gw_t (List.mem_of_getElem? (i := 552) (by decide +kernel)) rfl
set_option maxRecDepth 100000 in
theorem q_553 : (.selects RX3 yX3_stalePlans yX3_stalePlans) ∈ GW := gw_t (List.mem_of_getElem? (i := 553) (by decide +kernel)) rfl
set_option maxRecDepth 100000 in
theorem q_554 : (.code yX3_stalePlans cX3_stalePlans 3 (some .int)) ∈ GW := gw_t (List.mem_of_getElem? (i := 554) (by decide +kernel)) rfl
set_option maxRecDepth 100000 in
theorem q_555 : (.methodLink RX3 176 yX3_isStale) ∈ GW := gw_t (List.mem_of_getElem? (i := 555) (by decide +kernel)) rfl
set_option maxRecDepth 100000 in
theorem q_556 : (.methodLink RL 76 yL_cell) ∈ GW := gw_t (List.mem_of_getElem? (i := 556) (by decide +kernel)) rfl
set_option maxRecDepth 100000 in
theorem q_557 : (.static yL_cell) ∈ GW := gw_t (List.mem_of_getElem? (i := 557) (by decide +kernel)) rfl
set_option maxRecDepth 100000 in
theorem q_558 : (.code yL_cell cL_cell 2 (some .int)) ∈ GW := gw_t (List.mem_of_getElem? (i := 558) (by decide +kernel)) rfl
set_option maxRecDepth 100000 in
theorem q_559 : (.constant RL 7 (47881 : Int32)) ∈ GW := gw_t (List.mem_of_getElem? (i := 559) (by decide +kernel)) rfl
set_option maxRecDepth 100000 in
theorem q_560 : (.constant RL 8 (2147483647 : Int32)) ∈ GW := gw_t (List.mem_of_getElem? (i := 560) (by decide +kernel)) rfl
set_option maxRecDepth 100000 in
theorem q_561 : (.methodLink RL 83 yL_acts) ∈ GW := gw_t (List.mem_of_getElem? (i := 561) (by decide +kernel)) rfl
set_option maxRecDepth 100000 in
theorem q_562 : (.static yL_acts) ∈ GW := gw_t (List.mem_of_getElem? (i := 562) (by decide +kernel)) rfl
set_option maxRecDepth 100000 in
theorem q_563 : (.code yL_acts cL_acts 4 (some .int)) ∈ GW := gw_t (List.mem_of_getElem? (i := 563) (by decide +kernel)) rfl
set_option maxRecDepth 100000 in
theorem q_564 : (.methodLink RL 70 yL_hangs) ∈ GW := gw_t (List.mem_of_getElem? (i := 564) (by decide +kernel)) rfl
set_option maxRecDepth 100000 in
theorem q_565 : (.static yL_hangs) ∈ GW := gw_t (List.mem_of_getElem? (i := 565) (by decide +kernel)) rfl
set_option maxRecDepth 100000 in
theorem q_566 : (.code yL_hangs cL_hangs 14 (some .boolean)) ∈ GW := gw_t (List.mem_of_getElem? (i := 566) (by decide +kernel)) rfl
set_option maxRecDepth 100000 in
theorem q_567 : (.methodLink RL 87 yL_ways) ∈ GW := gw_t (List.mem_of_getElem? (i := 567) (by decide +kernel)) rfl
set_option maxRecDepth 100000 in
theorem q_568 : (.static yL_ways) ∈ GW := gw_t (List.mem_of_getElem? (i := 568) (by decide +kernel)) rfl
set_option maxRecDepth 100000 in
theorem q_569 : (.code yL_ways cL_ways 8 (some .boolean)) ∈ GW := gw_t (List.mem_of_getElem? (i := 569) (by decide +kernel)) rfl
set_option maxRecDepth 100000 in
theorem q_570 : (.fieldLink RJ0 9 "java/lang/String" "value" "[B") ∈ GW := gw_t (List.mem_of_getElem? (i := 570) (by decide +kernel)) rfl
set_option maxRecDepth 100000 in
theorem q_571 : (.fieldLink RJ0 15 "java/lang/String" "coder" "B") ∈ GW := gw_t (List.mem_of_getElem? (i := 571) (by decide +kernel)) rfl
set_option maxRecDepth 100000 in
theorem qs_0 : (.selects RX5 yX5_hasPlan yX5_hasPlan) ∈ GW := List.mem_filter.mpr ⟨List.mem_append_left _ (List.mem_of_getElem? (i := 0) (by decide +kernel)), rfl⟩
set_option maxRecDepth 100000 in
theorem inX0 : ∀ w ∈ wsX00, w ∈ GW := by decide +kernel
set_option maxRecDepth 100000 in
theorem inX1 : ∀ w ∈ wsX10, w ∈ GW := by decide +kernel
set_option maxRecDepth 100000 in
theorem inX2 : ∀ w ∈ wsX20, w ∈ GW := by decide +kernel
set_option maxRecDepth 100000 in
theorem inX3 : ∀ w ∈ wsX30, w ∈ GW := by decide +kernel
set_option maxRecDepth 100000 in
theorem inX4 : ∀ w ∈ wsX40, w ∈ GW := by decide +kernel
set_option maxRecDepth 100000 in
theorem inX5 : ∀ w ∈ wsX50, w ∈ GW := by decide +kernel
end
section
theorem dX0_init_0 : decode cX0_init 0 = .ok (.aload_n 0, 1) := by decide +kernel
theorem dX0_init_1 : decode cX0_init 1 = .ok (.invokespecial 3, 3) := by decide +kernel
theorem dX0_init_4 : decode cX0_init 4 = .ok (.aload_n 0, 1) := by decide +kernel
theorem dX0_init_5 : decode cX0_init 5 = .ok (.iconst 4, 1) := by decide +kernel
theorem dX0_init_6 : decode cX0_init 6 = .ok (.anewarray 9, 3) := by decide +kernel
theorem dX0_init_9 : decode cX0_init 9 = .ok (.putfield 11, 3) := by decide +kernel
theorem dX0_init_12 : decode cX0_init 12 = .ok (.iconst 0, 1) := by decide +kernel
theorem dX0_init_13 : decode cX0_init 13 = .ok (.istore_n 1, 1) := by decide +kernel
theorem dX0_init_14 : decode cX0_init 14 = .ok (.iload_n 1, 1) := by decide +kernel
theorem dX0_init_15 : decode cX0_init 15 = .ok (.iconst 4, 1) := by decide +kernel
theorem dX0_init_16 : decode cX0_init 16 = .ok (.if_icmp .ge 22, 3) := by decide +kernel
theorem dX0_init_19 : decode cX0_init 19 = .ok (.aload_n 0, 1) := by decide +kernel
theorem dX0_init_20 : decode cX0_init 20 = .ok (.getfield 11, 3) := by decide +kernel
theorem dX0_init_23 : decode cX0_init 23 = .ok (.iload_n 1, 1) := by decide +kernel
theorem dX0_init_24 : decode cX0_init 24 = .ok (.new 9, 3) := by decide +kernel
theorem dX0_init_27 : decode cX0_init 27 = .ok (.dup, 1) := by decide +kernel
theorem dX0_init_28 : decode cX0_init 28 = .ok (.invokespecial 17, 3) := by decide +kernel
theorem dX0_init_31 : decode cX0_init 31 = .ok (.aastore, 1) := by decide +kernel
theorem dX0_init_32 : decode cX0_init 32 = .ok (.iinc 1 1, 3) := by decide +kernel
theorem dX0_init_35 : decode cX0_init 35 = .ok (.goto (-21), 3) := by decide +kernel
theorem dX0_init_38 : decode cX0_init 38 = .ok (.return_, 1) := by decide +kernel
theorem dX0_record_0 : decode cX0_record 0 = .ok (.aload_n 0, 1) := by decide +kernel
theorem dX0_record_1 : decode cX0_record 1 = .ok (.getfield 11, 3) := by decide +kernel
theorem dX0_record_4 : decode cX0_record 4 = .ok (.aload_n 0, 1) := by decide +kernel
theorem dX0_record_5 : decode cX0_record 5 = .ok (.getfield 18, 3) := by decide +kernel
theorem dX0_record_8 : decode cX0_record 8 = .ok (.aaload, 1) := by decide +kernel
theorem dX0_record_9 : decode cX0_record 9 = .ok (.aload_n 1, 1) := by decide +kernel
theorem dX0_record_10 : decode cX0_record 10 = .ok (.invokevirtual 22, 3) := by decide +kernel
theorem dX0_record_13 : decode cX0_record 13 = .ok (.aload_n 0, 1) := by decide +kernel
theorem dX0_record_14 : decode cX0_record 14 = .ok (.aload_n 0, 1) := by decide +kernel
theorem dX0_record_15 : decode cX0_record 15 = .ok (.getfield 18, 3) := by decide +kernel
theorem dX0_record_18 : decode cX0_record 18 = .ok (.iconst 1, 1) := by decide +kernel
theorem dX0_record_19 : decode cX0_record 19 = .ok (.iadd, 1) := by decide +kernel
theorem dX0_record_20 : decode cX0_record 20 = .ok (.iconst 4, 1) := by decide +kernel
theorem dX0_record_21 : decode cX0_record 21 = .ok (.irem, 1) := by decide +kernel
theorem dX0_record_22 : decode cX0_record 22 = .ok (.putfield 18, 3) := by decide +kernel
theorem dX0_record_25 : decode cX0_record 25 = .ok (.aload_n 0, 1) := by decide +kernel
theorem dX0_record_26 : decode cX0_record 26 = .ok (.aload_n 0, 1) := by decide +kernel
theorem dX0_record_27 : decode cX0_record 27 = .ok (.getfield 26, 3) := by decide +kernel
theorem dX0_record_30 : decode cX0_record 30 = .ok (.iconst 1, 1) := by decide +kernel
theorem dX0_record_31 : decode cX0_record 31 = .ok (.iadd, 1) := by decide +kernel
theorem dX0_record_32 : decode cX0_record 32 = .ok (.iconst 4, 1) := by decide +kernel
theorem dX0_record_33 : decode cX0_record 33 = .ok (.invokestatic 29, 3) := by decide +kernel
theorem dX0_record_36 : decode cX0_record 36 = .ok (.putfield 26, 3) := by decide +kernel
theorem dX0_record_39 : decode cX0_record 39 = .ok (.return_, 1) := by decide +kernel
theorem dX0_takeBack_0 : decode cX0_takeBack 0 = .ok (.aload_n 0, 1) := by decide +kernel
theorem dX0_takeBack_1 : decode cX0_takeBack 1 = .ok (.aload_n 0, 1) := by decide +kernel
theorem dX0_takeBack_2 : decode cX0_takeBack 2 = .ok (.getfield 18, 3) := by decide +kernel
theorem dX0_takeBack_5 : decode cX0_takeBack 5 = .ok (.iconst 4, 1) := by decide +kernel
theorem dX0_takeBack_6 : decode cX0_takeBack 6 = .ok (.iadd, 1) := by decide +kernel
theorem dX0_takeBack_7 : decode cX0_takeBack 7 = .ok (.iconst 1, 1) := by decide +kernel
theorem dX0_takeBack_8 : decode cX0_takeBack 8 = .ok (.isub, 1) := by decide +kernel
theorem dX0_takeBack_9 : decode cX0_takeBack 9 = .ok (.iconst 4, 1) := by decide +kernel
theorem dX0_takeBack_10 : decode cX0_takeBack 10 = .ok (.irem, 1) := by decide +kernel
theorem dX0_takeBack_11 : decode cX0_takeBack 11 = .ok (.putfield 18, 3) := by decide +kernel
theorem dX0_takeBack_14 : decode cX0_takeBack 14 = .ok (.aload_n 0, 1) := by decide +kernel
theorem dX0_takeBack_15 : decode cX0_takeBack 15 = .ok (.dup, 1) := by decide +kernel
theorem dX0_takeBack_16 : decode cX0_takeBack 16 = .ok (.getfield 26, 3) := by decide +kernel
theorem dX0_takeBack_19 : decode cX0_takeBack 19 = .ok (.iconst 1, 1) := by decide +kernel
theorem dX0_takeBack_20 : decode cX0_takeBack 20 = .ok (.isub, 1) := by decide +kernel
theorem dX0_takeBack_21 : decode cX0_takeBack 21 = .ok (.putfield 26, 3) := by decide +kernel
theorem dX0_takeBack_24 : decode cX0_takeBack 24 = .ok (.aload_n 1, 1) := by decide +kernel
theorem dX0_takeBack_25 : decode cX0_takeBack 25 = .ok (.aload_n 0, 1) := by decide +kernel
theorem dX0_takeBack_26 : decode cX0_takeBack 26 = .ok (.getfield 11, 3) := by decide +kernel
theorem dX0_takeBack_29 : decode cX0_takeBack 29 = .ok (.aload_n 0, 1) := by decide +kernel
theorem dX0_takeBack_30 : decode cX0_takeBack 30 = .ok (.getfield 18, 3) := by decide +kernel
theorem dX0_takeBack_33 : decode cX0_takeBack 33 = .ok (.aaload, 1) := by decide +kernel
theorem dX0_takeBack_34 : decode cX0_takeBack 34 = .ok (.invokevirtual 22, 3) := by decide +kernel
theorem dX0_takeBack_37 : decode cX0_takeBack 37 = .ok (.return_, 1) := by decide +kernel
theorem dX1_init_0 : decode cX1_init 0 = .ok (.aload_n 0, 1) := by decide +kernel
theorem dX1_init_1 : decode cX1_init 1 = .ok (.invokespecial 1, 3) := by decide +kernel
theorem dX1_init_4 : decode cX1_init 4 = .ok (.return_, 1) := by decide +kernel
theorem dX1_copyFrom_0 : decode cX1_copyFrom 0 = .ok (.aload_n 0, 1) := by decide +kernel
theorem dX1_copyFrom_1 : decode cX1_copyFrom 1 = .ok (.aload_n 1, 1) := by decide +kernel
theorem dX1_copyFrom_2 : decode cX1_copyFrom 2 = .ok (.getfield 7, 3) := by decide +kernel
theorem dX1_copyFrom_5 : decode cX1_copyFrom 5 = .ok (.putfield 7, 3) := by decide +kernel
theorem dX1_copyFrom_8 : decode cX1_copyFrom 8 = .ok (.aload_n 0, 1) := by decide +kernel
theorem dX1_copyFrom_9 : decode cX1_copyFrom 9 = .ok (.aload_n 1, 1) := by decide +kernel
theorem dX1_copyFrom_10 : decode cX1_copyFrom 10 = .ok (.getfield 13, 3) := by decide +kernel
theorem dX1_copyFrom_13 : decode cX1_copyFrom 13 = .ok (.putfield 13, 3) := by decide +kernel
theorem dX1_copyFrom_16 : decode cX1_copyFrom 16 = .ok (.aload_n 0, 1) := by decide +kernel
theorem dX1_copyFrom_17 : decode cX1_copyFrom 17 = .ok (.aload_n 1, 1) := by decide +kernel
theorem dX1_copyFrom_18 : decode cX1_copyFrom 18 = .ok (.getfield 16, 3) := by decide +kernel
theorem dX1_copyFrom_21 : decode cX1_copyFrom 21 = .ok (.putfield 16, 3) := by decide +kernel
theorem dX1_copyFrom_24 : decode cX1_copyFrom 24 = .ok (.aload_n 0, 1) := by decide +kernel
theorem dX1_copyFrom_25 : decode cX1_copyFrom 25 = .ok (.aload_n 1, 1) := by decide +kernel
theorem dX1_copyFrom_26 : decode cX1_copyFrom 26 = .ok (.getfield 20, 3) := by decide +kernel
theorem dX1_copyFrom_29 : decode cX1_copyFrom 29 = .ok (.putfield 20, 3) := by decide +kernel
theorem dX1_copyFrom_32 : decode cX1_copyFrom 32 = .ok (.aload_n 0, 1) := by decide +kernel
theorem dX1_copyFrom_33 : decode cX1_copyFrom 33 = .ok (.aload_n 1, 1) := by decide +kernel
theorem dX1_copyFrom_34 : decode cX1_copyFrom 34 = .ok (.getfield 23, 3) := by decide +kernel
theorem dX1_copyFrom_37 : decode cX1_copyFrom 37 = .ok (.putfield 23, 3) := by decide +kernel
theorem dX1_copyFrom_40 : decode cX1_copyFrom 40 = .ok (.aload_n 0, 1) := by decide +kernel
theorem dX1_copyFrom_41 : decode cX1_copyFrom 41 = .ok (.aload_n 1, 1) := by decide +kernel
theorem dX1_copyFrom_42 : decode cX1_copyFrom 42 = .ok (.getfield 26, 3) := by decide +kernel
theorem dX1_copyFrom_45 : decode cX1_copyFrom 45 = .ok (.putfield 26, 3) := by decide +kernel
theorem dX1_copyFrom_48 : decode cX1_copyFrom 48 = .ok (.aload_n 0, 1) := by decide +kernel
theorem dX1_copyFrom_49 : decode cX1_copyFrom 49 = .ok (.aload_n 1, 1) := by decide +kernel
theorem dX1_copyFrom_50 : decode cX1_copyFrom 50 = .ok (.getfield 29, 3) := by decide +kernel
theorem dX1_copyFrom_53 : decode cX1_copyFrom 53 = .ok (.putfield 29, 3) := by decide +kernel
theorem dX1_copyFrom_56 : decode cX1_copyFrom 56 = .ok (.aload_n 0, 1) := by decide +kernel
theorem dX1_copyFrom_57 : decode cX1_copyFrom 57 = .ok (.aload_n 1, 1) := by decide +kernel
theorem dX1_copyFrom_58 : decode cX1_copyFrom 58 = .ok (.getfield 32, 3) := by decide +kernel
theorem dX1_copyFrom_61 : decode cX1_copyFrom 61 = .ok (.putfield 32, 3) := by decide +kernel
theorem dX1_copyFrom_64 : decode cX1_copyFrom 64 = .ok (.aload_n 0, 1) := by decide +kernel
theorem dX1_copyFrom_65 : decode cX1_copyFrom 65 = .ok (.aload_n 1, 1) := by decide +kernel
theorem dX1_copyFrom_66 : decode cX1_copyFrom 66 = .ok (.getfield 35, 3) := by decide +kernel
theorem dX1_copyFrom_69 : decode cX1_copyFrom 69 = .ok (.putfield 35, 3) := by decide +kernel
theorem dX1_copyFrom_72 : decode cX1_copyFrom 72 = .ok (.aload_n 0, 1) := by decide +kernel
theorem dX1_copyFrom_73 : decode cX1_copyFrom 73 = .ok (.aload_n 1, 1) := by decide +kernel
theorem dX1_copyFrom_74 : decode cX1_copyFrom 74 = .ok (.getfield 38, 3) := by decide +kernel
theorem dX1_copyFrom_77 : decode cX1_copyFrom 77 = .ok (.putfield 38, 3) := by decide +kernel
theorem dX1_copyFrom_80 : decode cX1_copyFrom 80 = .ok (.aload_n 0, 1) := by decide +kernel
theorem dX1_copyFrom_81 : decode cX1_copyFrom 81 = .ok (.aload_n 1, 1) := by decide +kernel
theorem dX1_copyFrom_82 : decode cX1_copyFrom 82 = .ok (.getfield 41, 3) := by decide +kernel
theorem dX1_copyFrom_85 : decode cX1_copyFrom 85 = .ok (.putfield 41, 3) := by decide +kernel
theorem dX1_copyFrom_88 : decode cX1_copyFrom 88 = .ok (.return_, 1) := by decide +kernel
theorem dX2_init_0 : decode cX2_init 0 = .ok (.aload_n 0, 1) := by decide +kernel
theorem dX2_init_1 : decode cX2_init 1 = .ok (.invokespecial 3, 3) := by decide +kernel
theorem dX2_init_4 : decode cX2_init 4 = .ok (.aload_n 0, 1) := by decide +kernel
theorem dX2_init_5 : decode cX2_init 5 = .ok (.bipush 80, 2) := by decide +kernel
theorem dX2_init_7 : decode cX2_init 7 = .ok (.newarray .char, 2) := by decide +kernel
theorem dX2_init_9 : decode cX2_init 9 = .ok (.putfield 9, 3) := by decide +kernel
theorem dX2_init_12 : decode cX2_init 12 = .ok (.aload_n 0, 1) := by decide +kernel
theorem dX2_init_13 : decode cX2_init 13 = .ok (.bipush 11, 2) := by decide +kernel
theorem dX2_init_15 : decode cX2_init 15 = .ok (.newarray .int, 2) := by decide +kernel
theorem dX2_init_17 : decode cX2_init 17 = .ok (.putfield 15, 3) := by decide +kernel
theorem dX2_init_20 : decode cX2_init 20 = .ok (.aload_n 0, 1) := by decide +kernel
theorem dX2_init_21 : decode cX2_init 21 = .ok (.bipush 11, 2) := by decide +kernel
theorem dX2_init_23 : decode cX2_init 23 = .ok (.newarray .int, 2) := by decide +kernel
theorem dX2_init_25 : decode cX2_init 25 = .ok (.putfield 19, 3) := by decide +kernel
theorem dX2_init_28 : decode cX2_init 28 = .ok (.aload_n 0, 1) := by decide +kernel
theorem dX2_init_29 : decode cX2_init 29 = .ok (.bipush 11, 2) := by decide +kernel
theorem dX2_init_31 : decode cX2_init 31 = .ok (.newarray .int, 2) := by decide +kernel
theorem dX2_init_33 : decode cX2_init 33 = .ok (.putfield 22, 3) := by decide +kernel
theorem dX2_init_36 : decode cX2_init 36 = .ok (.return_, 1) := by decide +kernel
theorem dX2_read_0 : decode cX2_read 0 = .ok (.aload_n 0, 1) := by decide +kernel
theorem dX2_read_1 : decode cX2_read 1 = .ok (.iconst 0, 1) := by decide +kernel
theorem dX2_read_2 : decode cX2_read 2 = .ok (.putfield 25, 3) := by decide +kernel
theorem dX2_read_5 : decode cX2_read 5 = .ok (.aload_n 0, 1) := by decide +kernel
theorem dX2_read_6 : decode cX2_read 6 = .ok (.iconst 0, 1) := by decide +kernel
theorem dX2_read_7 : decode cX2_read 7 = .ok (.putfield 29, 3) := by decide +kernel
theorem dX2_read_10 : decode cX2_read 10 = .ok (.aload_n 0, 1) := by decide +kernel
theorem dX2_read_11 : decode cX2_read 11 = .ok (.getfield 29, 3) := by decide +kernel
theorem dX2_read_14 : decode cX2_read 14 = .ok (.bipush 11, 2) := by decide +kernel
theorem dX2_read_16 : decode cX2_read 16 = .ok (.if_icmp .ge 57, 3) := by decide +kernel
theorem dX2_read_19 : decode cX2_read 19 = .ok (.aload_n 0, 1) := by decide +kernel
theorem dX2_read_20 : decode cX2_read 20 = .ok (.aload_n 0, 1) := by decide +kernel
theorem dX2_read_21 : decode cX2_read 21 = .ok (.getfield 29, 3) := by decide +kernel
theorem dX2_read_24 : decode cX2_read 24 = .ok (.invokevirtual 32, 3) := by decide +kernel
theorem dX2_read_27 : decode cX2_read 27 = .ok (.ifCond .ne 8, 3) := by decide +kernel
theorem dX2_read_30 : decode cX2_read 30 = .ok (.aload_n 0, 1) := by decide +kernel
theorem dX2_read_31 : decode cX2_read 31 = .ok (.getfield 25, 3) := by decide +kernel
theorem dX2_read_34 : decode cX2_read 34 = .ok (.ireturn, 1) := by decide +kernel
theorem dX2_read_35 : decode cX2_read 35 = .ok (.aload_n 0, 1) := by decide +kernel
theorem dX2_read_36 : decode cX2_read 36 = .ok (.dup, 1) := by decide +kernel
theorem dX2_read_37 : decode cX2_read 37 = .ok (.getfield 29, 3) := by decide +kernel
theorem dX2_read_40 : decode cX2_read 40 = .ok (.iconst 1, 1) := by decide +kernel
theorem dX2_read_41 : decode cX2_read 41 = .ok (.iadd, 1) := by decide +kernel
theorem dX2_read_42 : decode cX2_read 42 = .ok (.putfield 29, 3) := by decide +kernel
theorem dX2_read_45 : decode cX2_read 45 = .ok (.aload_n 0, 1) := by decide +kernel
theorem dX2_read_46 : decode cX2_read 46 = .ok (.getfield 25, 3) := by decide +kernel
theorem dX2_read_49 : decode cX2_read 49 = .ok (.aload_n 0, 1) := by decide +kernel
theorem dX2_read_50 : decode cX2_read 50 = .ok (.getfield 36, 3) := by decide +kernel
theorem dX2_read_53 : decode cX2_read 53 = .ok (.if_icmp .lt 6, 3) := by decide +kernel
theorem dX2_read_56 : decode cX2_read 56 = .ok (.bipush (-4), 2) := by decide +kernel
theorem dX2_read_58 : decode cX2_read 58 = .ok (.ireturn, 1) := by decide +kernel
theorem dX2_read_59 : decode cX2_read 59 = .ok (.aload_n 0, 1) := by decide +kernel
theorem dX2_read_60 : decode cX2_read 60 = .ok (.ldc 39, 2) := by decide +kernel
theorem dX2_read_62 : decode cX2_read 62 = .ok (.invokevirtual 41, 3) := by decide +kernel
theorem dX2_read_65 : decode cX2_read 65 = .ok (.ifCond .ne (-55), 3) := by decide +kernel
theorem dX2_read_68 : decode cX2_read 68 = .ok (.aload_n 0, 1) := by decide +kernel
theorem dX2_read_69 : decode cX2_read 69 = .ok (.getfield 25, 3) := by decide +kernel
theorem dX2_read_72 : decode cX2_read 72 = .ok (.ireturn, 1) := by decide +kernel
theorem dX2_read_73 : decode cX2_read 73 = .ok (.aload_n 0, 1) := by decide +kernel
theorem dX2_read_74 : decode cX2_read 74 = .ok (.getfield 25, 3) := by decide +kernel
theorem dX2_read_77 : decode cX2_read 77 = .ok (.ireturn, 1) := by decide +kernel
theorem dX2_readLine_0 : decode cX2_readLine 0 = .ok (.aload_n 0, 1) := by decide +kernel
theorem dX2_readLine_1 : decode cX2_readLine 1 = .ok (.invokevirtual 45, 3) := by decide +kernel
theorem dX2_readLine_4 : decode cX2_readLine 4 = .ok (.istore_n 2, 1) := by decide +kernel
theorem dX2_readLine_5 : decode cX2_readLine 5 = .ok (.iload_n 2, 1) := by decide +kernel
theorem dX2_readLine_6 : decode cX2_readLine 6 = .ok (.iconst (-1), 1) := by decide +kernel
theorem dX2_readLine_7 : decode cX2_readLine 7 = .ok (.if_icmp .ne 5, 3) := by decide +kernel
theorem dX2_readLine_10 : decode cX2_readLine 10 = .ok (.iconst 0, 1) := by decide +kernel
theorem dX2_readLine_11 : decode cX2_readLine 11 = .ok (.ireturn, 1) := by decide +kernel
theorem dX2_readLine_12 : decode cX2_readLine 12 = .ok (.aload_n 0, 1) := by decide +kernel
theorem dX2_readLine_13 : decode cX2_readLine 13 = .ok (.iconst 0, 1) := by decide +kernel
theorem dX2_readLine_14 : decode cX2_readLine 14 = .ok (.iconst 3, 1) := by decide +kernel
theorem dX2_readLine_15 : decode cX2_readLine 15 = .ok (.invokevirtual 49, 3) := by decide +kernel
theorem dX2_readLine_18 : decode cX2_readLine 18 = .ok (.istore_n 3, 1) := by decide +kernel
theorem dX2_readLine_19 : decode cX2_readLine 19 = .ok (.iload_n 3, 1) := by decide +kernel
theorem dX2_readLine_20 : decode cX2_readLine 20 = .ok (.iconst (-1), 1) := by decide +kernel
theorem dX2_readLine_21 : decode cX2_readLine 21 = .ok (.if_icmp .ne 5, 3) := by decide +kernel
theorem dX2_readLine_24 : decode cX2_readLine 24 = .ok (.iconst 0, 1) := by decide +kernel
theorem dX2_readLine_25 : decode cX2_readLine 25 = .ok (.ireturn, 1) := by decide +kernel
theorem dX2_readLine_26 : decode cX2_readLine 26 = .ok (.aload_n 0, 1) := by decide +kernel
theorem dX2_readLine_27 : decode cX2_readLine 27 = .ok (.iload_n 2, 1) := by decide +kernel
theorem dX2_readLine_28 : decode cX2_readLine 28 = .ok (.ifCond .eq 8, 3) := by decide +kernel
theorem dX2_readLine_31 : decode cX2_readLine 31 = .ok (.iload_n 2, 1) := by decide +kernel
theorem dX2_readLine_32 : decode cX2_readLine 32 = .ok (.iconst 3, 1) := by decide +kernel
theorem dX2_readLine_33 : decode cX2_readLine 33 = .ok (.if_icmp .ne 7, 3) := by decide +kernel
theorem dX2_readLine_36 : decode cX2_readLine 36 = .ok (.iconst 0, 1) := by decide +kernel
theorem dX2_readLine_37 : decode cX2_readLine 37 = .ok (.goto 4, 3) := by decide +kernel
theorem dX2_readLine_40 : decode cX2_readLine 40 = .ok (.iconst 1, 1) := by decide +kernel
theorem dX2_readLine_41 : decode cX2_readLine 41 = .ok (.sipush 9999, 3) := by decide +kernel
theorem dX2_readLine_44 : decode cX2_readLine 44 = .ok (.invokevirtual 49, 3) := by decide +kernel
theorem dX2_readLine_47 : decode cX2_readLine 47 = .ok (.istore 4, 2) := by decide +kernel
theorem dX2_readLine_49 : decode cX2_readLine 49 = .ok (.iload 4, 2) := by decide +kernel
theorem dX2_readLine_51 : decode cX2_readLine 51 = .ok (.iconst (-1), 1) := by decide +kernel
theorem dX2_readLine_52 : decode cX2_readLine 52 = .ok (.if_icmp .ne 5, 3) := by decide +kernel
theorem dX2_readLine_55 : decode cX2_readLine 55 = .ok (.iconst 0, 1) := by decide +kernel
theorem dX2_readLine_56 : decode cX2_readLine 56 = .ok (.ireturn, 1) := by decide +kernel
theorem dX2_readLine_57 : decode cX2_readLine 57 = .ok (.aload_n 0, 1) := by decide +kernel
theorem dX2_readLine_58 : decode cX2_readLine 58 = .ok (.getfield 15, 3) := by decide +kernel
theorem dX2_readLine_61 : decode cX2_readLine 61 = .ok (.iload_n 1, 1) := by decide +kernel
theorem dX2_readLine_62 : decode cX2_readLine 62 = .ok (.iload_n 2, 1) := by decide +kernel
theorem dX2_readLine_63 : decode cX2_readLine 63 = .ok (.iastore, 1) := by decide +kernel
theorem dX2_readLine_64 : decode cX2_readLine 64 = .ok (.aload_n 0, 1) := by decide +kernel
theorem dX2_readLine_65 : decode cX2_readLine 65 = .ok (.getfield 19, 3) := by decide +kernel
theorem dX2_readLine_68 : decode cX2_readLine 68 = .ok (.iload_n 1, 1) := by decide +kernel
theorem dX2_readLine_69 : decode cX2_readLine 69 = .ok (.iload_n 3, 1) := by decide +kernel
theorem dX2_readLine_70 : decode cX2_readLine 70 = .ok (.iastore, 1) := by decide +kernel
theorem dX2_readLine_71 : decode cX2_readLine 71 = .ok (.aload_n 0, 1) := by decide +kernel
theorem dX2_readLine_72 : decode cX2_readLine 72 = .ok (.getfield 22, 3) := by decide +kernel
theorem dX2_readLine_75 : decode cX2_readLine 75 = .ok (.iload_n 1, 1) := by decide +kernel
theorem dX2_readLine_76 : decode cX2_readLine 76 = .ok (.iload 4, 2) := by decide +kernel
theorem dX2_readLine_78 : decode cX2_readLine 78 = .ok (.iastore, 1) := by decide +kernel
theorem dX2_readLine_79 : decode cX2_readLine 79 = .ok (.iconst 1, 1) := by decide +kernel
theorem dX2_readLine_80 : decode cX2_readLine 80 = .ok (.ireturn, 1) := by decide +kernel
theorem dX2_readWord_0 : decode cX2_readWord 0 = .ok (.aload_n 0, 1) := by decide +kernel
theorem dX2_readWord_1 : decode cX2_readWord 1 = .ok (.invokevirtual 53, 3) := by decide +kernel
theorem dX2_readWord_4 : decode cX2_readWord 4 = .ok (.tableswitch 106 107 116 #[56, 106, 106, 106, 106, 106, 106, 91, 61, 76], 56) := by decide +kernel
theorem dX2_readWord_60 : decode cX2_readWord 60 = .ok (.aload_n 0, 1) := by decide +kernel
theorem dX2_readWord_61 : decode cX2_readWord 61 = .ok (.invokevirtual 56, 3) := by decide +kernel
theorem dX2_readWord_64 : decode cX2_readWord 64 = .ok (.ireturn, 1) := by decide +kernel
theorem dX2_readWord_65 : decode cX2_readWord 65 = .ok (.aload_n 0, 1) := by decide +kernel
theorem dX2_readWord_66 : decode cX2_readWord 66 = .ok (.ldc 59, 2) := by decide +kernel
theorem dX2_readWord_68 : decode cX2_readWord 68 = .ok (.invokevirtual 41, 3) := by decide +kernel
theorem dX2_readWord_71 : decode cX2_readWord 71 = .ok (.ifCond .eq 7, 3) := by decide +kernel
theorem dX2_readWord_74 : decode cX2_readWord 74 = .ok (.iconst 1, 1) := by decide +kernel
theorem dX2_readWord_75 : decode cX2_readWord 75 = .ok (.goto 4, 3) := by decide +kernel
theorem dX2_readWord_78 : decode cX2_readWord 78 = .ok (.iconst (-1), 1) := by decide +kernel
theorem dX2_readWord_79 : decode cX2_readWord 79 = .ok (.ireturn, 1) := by decide +kernel
theorem dX2_readWord_80 : decode cX2_readWord 80 = .ok (.aload_n 0, 1) := by decide +kernel
theorem dX2_readWord_81 : decode cX2_readWord 81 = .ok (.ldc 61, 2) := by decide +kernel
theorem dX2_readWord_83 : decode cX2_readWord 83 = .ok (.invokevirtual 41, 3) := by decide +kernel
theorem dX2_readWord_86 : decode cX2_readWord 86 = .ok (.ifCond .eq 7, 3) := by decide +kernel
theorem dX2_readWord_89 : decode cX2_readWord 89 = .ok (.iconst 2, 1) := by decide +kernel
theorem dX2_readWord_90 : decode cX2_readWord 90 = .ok (.goto 4, 3) := by decide +kernel
theorem dX2_readWord_93 : decode cX2_readWord 93 = .ok (.iconst (-1), 1) := by decide +kernel
theorem dX2_readWord_94 : decode cX2_readWord 94 = .ok (.ireturn, 1) := by decide +kernel
theorem dX2_readWord_95 : decode cX2_readWord 95 = .ok (.aload_n 0, 1) := by decide +kernel
theorem dX2_readWord_96 : decode cX2_readWord 96 = .ok (.ldc 63, 2) := by decide +kernel
theorem dX2_readWord_98 : decode cX2_readWord 98 = .ok (.invokevirtual 41, 3) := by decide +kernel
theorem dX2_readWord_101 : decode cX2_readWord 101 = .ok (.ifCond .eq 7, 3) := by decide +kernel
theorem dX2_readWord_104 : decode cX2_readWord 104 = .ok (.iconst 3, 1) := by decide +kernel
theorem dX2_readWord_105 : decode cX2_readWord 105 = .ok (.goto 4, 3) := by decide +kernel
theorem dX2_readWord_108 : decode cX2_readWord 108 = .ok (.iconst (-1), 1) := by decide +kernel
theorem dX2_readWord_109 : decode cX2_readWord 109 = .ok (.ireturn, 1) := by decide +kernel
theorem dX2_readWord_110 : decode cX2_readWord 110 = .ok (.iconst (-1), 1) := by decide +kernel
theorem dX2_readWord_111 : decode cX2_readWord 111 = .ok (.ireturn, 1) := by decide +kernel
theorem dX2_readKeyOrKeys_0 : decode cX2_readKeyOrKeys 0 = .ok (.aload_n 0, 1) := by decide +kernel
theorem dX2_readKeyOrKeys_1 : decode cX2_readKeyOrKeys 1 = .ok (.ldc 65, 2) := by decide +kernel
theorem dX2_readKeyOrKeys_3 : decode cX2_readKeyOrKeys 3 = .ok (.invokevirtual 41, 3) := by decide +kernel
theorem dX2_readKeyOrKeys_6 : decode cX2_readKeyOrKeys 6 = .ok (.ifCond .ne 5, 3) := by decide +kernel
theorem dX2_readKeyOrKeys_9 : decode cX2_readKeyOrKeys 9 = .ok (.iconst (-1), 1) := by decide +kernel
theorem dX2_readKeyOrKeys_10 : decode cX2_readKeyOrKeys 10 = .ok (.ireturn, 1) := by decide +kernel
theorem dX2_readKeyOrKeys_11 : decode cX2_readKeyOrKeys 11 = .ok (.aload_n 0, 1) := by decide +kernel
theorem dX2_readKeyOrKeys_12 : decode cX2_readKeyOrKeys 12 = .ok (.ldc 67, 2) := by decide +kernel
theorem dX2_readKeyOrKeys_14 : decode cX2_readKeyOrKeys 14 = .ok (.invokevirtual 41, 3) := by decide +kernel
theorem dX2_readKeyOrKeys_17 : decode cX2_readKeyOrKeys 17 = .ok (.ifCond .eq 7, 3) := by decide +kernel
theorem dX2_readKeyOrKeys_20 : decode cX2_readKeyOrKeys 20 = .ok (.iconst 4, 1) := by decide +kernel
theorem dX2_readKeyOrKeys_21 : decode cX2_readKeyOrKeys 21 = .ok (.goto 4, 3) := by decide +kernel
theorem dX2_readKeyOrKeys_24 : decode cX2_readKeyOrKeys 24 = .ok (.iconst 0, 1) := by decide +kernel
theorem dX2_readKeyOrKeys_25 : decode cX2_readKeyOrKeys 25 = .ok (.ireturn, 1) := by decide +kernel
theorem dX2_readNumber_0 : decode cX2_readNumber 0 = .ok (.aload_n 0, 1) := by decide +kernel
theorem dX2_readNumber_1 : decode cX2_readNumber 1 = .ok (.ldc 69, 2) := by decide +kernel
theorem dX2_readNumber_3 : decode cX2_readNumber 3 = .ok (.invokevirtual 41, 3) := by decide +kernel
theorem dX2_readNumber_6 : decode cX2_readNumber 6 = .ok (.ifCond .ne 5, 3) := by decide +kernel
theorem dX2_readNumber_9 : decode cX2_readNumber 9 = .ok (.iconst (-1), 1) := by decide +kernel
theorem dX2_readNumber_10 : decode cX2_readNumber 10 = .ok (.ireturn, 1) := by decide +kernel
theorem dX2_readNumber_11 : decode cX2_readNumber 11 = .ok (.aload_n 0, 1) := by decide +kernel
theorem dX2_readNumber_12 : decode cX2_readNumber 12 = .ok (.invokevirtual 71, 3) := by decide +kernel
theorem dX2_readNumber_15 : decode cX2_readNumber 15 = .ok (.istore_n 3, 1) := by decide +kernel
theorem dX2_readNumber_16 : decode cX2_readNumber 16 = .ok (.iload_n 3, 1) := by decide +kernel
theorem dX2_readNumber_17 : decode cX2_readNumber 17 = .ok (.iload_n 1, 1) := by decide +kernel
theorem dX2_readNumber_18 : decode cX2_readNumber 18 = .ok (.if_icmp .lt 8, 3) := by decide +kernel
theorem dX2_readNumber_21 : decode cX2_readNumber 21 = .ok (.iload_n 3, 1) := by decide +kernel
theorem dX2_readNumber_22 : decode cX2_readNumber 22 = .ok (.iload_n 2, 1) := by decide +kernel
theorem dX2_readNumber_23 : decode cX2_readNumber 23 = .ok (.if_icmp .le 5, 3) := by decide +kernel
theorem dX2_readNumber_26 : decode cX2_readNumber 26 = .ok (.iconst (-1), 1) := by decide +kernel
theorem dX2_readNumber_27 : decode cX2_readNumber 27 = .ok (.ireturn, 1) := by decide +kernel
theorem dX2_readNumber_28 : decode cX2_readNumber 28 = .ok (.aload_n 0, 1) := by decide +kernel
theorem dX2_readNumber_29 : decode cX2_readNumber 29 = .ok (.dup, 1) := by decide +kernel
theorem dX2_readNumber_30 : decode cX2_readNumber 30 = .ok (.getfield 25, 3) := by decide +kernel
theorem dX2_readNumber_33 : decode cX2_readNumber 33 = .ok (.iconst 1, 1) := by decide +kernel
theorem dX2_readNumber_34 : decode cX2_readNumber 34 = .ok (.iadd, 1) := by decide +kernel
theorem dX2_readNumber_35 : decode cX2_readNumber 35 = .ok (.putfield 25, 3) := by decide +kernel
theorem dX2_readNumber_38 : decode cX2_readNumber 38 = .ok (.aload_n 0, 1) := by decide +kernel
theorem dX2_readNumber_39 : decode cX2_readNumber 39 = .ok (.getfield 25, 3) := by decide +kernel
theorem dX2_readNumber_42 : decode cX2_readNumber 42 = .ok (.aload_n 0, 1) := by decide +kernel
theorem dX2_readNumber_43 : decode cX2_readNumber 43 = .ok (.getfield 36, 3) := by decide +kernel
theorem dX2_readNumber_46 : decode cX2_readNumber 46 = .ok (.if_icmp .ge 49, 3) := by decide +kernel
theorem dX2_readNumber_49 : decode cX2_readNumber 49 = .ok (.iload_n 3, 1) := by decide +kernel
theorem dX2_readNumber_50 : decode cX2_readNumber 50 = .ok (.ifCond .le 45, 3) := by decide +kernel
theorem dX2_readNumber_53 : decode cX2_readNumber 53 = .ok (.bipush 10, 2) := by decide +kernel
theorem dX2_readNumber_55 : decode cX2_readNumber 55 = .ok (.iload_n 3, 1) := by decide +kernel
theorem dX2_readNumber_56 : decode cX2_readNumber 56 = .ok (.imul, 1) := by decide +kernel
theorem dX2_readNumber_57 : decode cX2_readNumber 57 = .ok (.aload_n 0, 1) := by decide +kernel
theorem dX2_readNumber_58 : decode cX2_readNumber 58 = .ok (.invokevirtual 71, 3) := by decide +kernel
theorem dX2_readNumber_61 : decode cX2_readNumber 61 = .ok (.iadd, 1) := by decide +kernel
theorem dX2_readNumber_62 : decode cX2_readNumber 62 = .ok (.istore 4, 2) := by decide +kernel
theorem dX2_readNumber_64 : decode cX2_readNumber 64 = .ok (.aload_n 0, 1) := by decide +kernel
theorem dX2_readNumber_65 : decode cX2_readNumber 65 = .ok (.invokevirtual 71, 3) := by decide +kernel
theorem dX2_readNumber_68 : decode cX2_readNumber 68 = .ok (.ifCond .lt 9, 3) := by decide +kernel
theorem dX2_readNumber_71 : decode cX2_readNumber 71 = .ok (.iload 4, 2) := by decide +kernel
theorem dX2_readNumber_73 : decode cX2_readNumber 73 = .ok (.iload_n 2, 1) := by decide +kernel
theorem dX2_readNumber_74 : decode cX2_readNumber 74 = .ok (.if_icmp .le 5, 3) := by decide +kernel
theorem dX2_readNumber_77 : decode cX2_readNumber 77 = .ok (.iload_n 3, 1) := by decide +kernel
theorem dX2_readNumber_78 : decode cX2_readNumber 78 = .ok (.ireturn, 1) := by decide +kernel
theorem dX2_readNumber_79 : decode cX2_readNumber 79 = .ok (.iload 4, 2) := by decide +kernel
theorem dX2_readNumber_81 : decode cX2_readNumber 81 = .ok (.istore_n 3, 1) := by decide +kernel
theorem dX2_readNumber_82 : decode cX2_readNumber 82 = .ok (.aload_n 0, 1) := by decide +kernel
theorem dX2_readNumber_83 : decode cX2_readNumber 83 = .ok (.dup, 1) := by decide +kernel
theorem dX2_readNumber_84 : decode cX2_readNumber 84 = .ok (.getfield 25, 3) := by decide +kernel
theorem dX2_readNumber_87 : decode cX2_readNumber 87 = .ok (.iconst 1, 1) := by decide +kernel
theorem dX2_readNumber_88 : decode cX2_readNumber 88 = .ok (.iadd, 1) := by decide +kernel
theorem dX2_readNumber_89 : decode cX2_readNumber 89 = .ok (.putfield 25, 3) := by decide +kernel
theorem dX2_readNumber_92 : decode cX2_readNumber 92 = .ok (.goto (-54), 3) := by decide +kernel
theorem dX2_readNumber_95 : decode cX2_readNumber 95 = .ok (.iload_n 3, 1) := by decide +kernel
theorem dX2_readNumber_96 : decode cX2_readNumber 96 = .ok (.ireturn, 1) := by decide +kernel
theorem dX2_pass_0 : decode cX2_pass 0 = .ok (.iconst 0, 1) := by decide +kernel
theorem dX2_pass_1 : decode cX2_pass 1 = .ok (.istore_n 2, 1) := by decide +kernel
theorem dX2_pass_2 : decode cX2_pass 2 = .ok (.iload_n 2, 1) := by decide +kernel
theorem dX2_pass_3 : decode cX2_pass 3 = .ok (.aload_n 1, 1) := by decide +kernel
theorem dX2_pass_4 : decode cX2_pass 4 = .ok (.invokevirtual 74, 3) := by decide +kernel
theorem dX2_pass_7 : decode cX2_pass 7 = .ok (.if_icmp .ge 33, 3) := by decide +kernel
theorem dX2_pass_10 : decode cX2_pass 10 = .ok (.aload_n 0, 1) := by decide +kernel
theorem dX2_pass_11 : decode cX2_pass 11 = .ok (.invokevirtual 53, 3) := by decide +kernel
theorem dX2_pass_14 : decode cX2_pass 14 = .ok (.aload_n 1, 1) := by decide +kernel
theorem dX2_pass_15 : decode cX2_pass 15 = .ok (.iload_n 2, 1) := by decide +kernel
theorem dX2_pass_16 : decode cX2_pass 16 = .ok (.invokevirtual 78, 3) := by decide +kernel
theorem dX2_pass_19 : decode cX2_pass 19 = .ok (.if_icmp .eq 5, 3) := by decide +kernel
theorem dX2_pass_22 : decode cX2_pass 22 = .ok (.iconst 0, 1) := by decide +kernel
theorem dX2_pass_23 : decode cX2_pass 23 = .ok (.ireturn, 1) := by decide +kernel
theorem dX2_pass_24 : decode cX2_pass 24 = .ok (.aload_n 0, 1) := by decide +kernel
theorem dX2_pass_25 : decode cX2_pass 25 = .ok (.dup, 1) := by decide +kernel
theorem dX2_pass_26 : decode cX2_pass 26 = .ok (.getfield 25, 3) := by decide +kernel
theorem dX2_pass_29 : decode cX2_pass 29 = .ok (.iconst 1, 1) := by decide +kernel
theorem dX2_pass_30 : decode cX2_pass 30 = .ok (.iadd, 1) := by decide +kernel
theorem dX2_pass_31 : decode cX2_pass 31 = .ok (.putfield 25, 3) := by decide +kernel
theorem dX2_pass_34 : decode cX2_pass 34 = .ok (.iinc 2 1, 3) := by decide +kernel
theorem dX2_pass_37 : decode cX2_pass 37 = .ok (.goto (-35), 3) := by decide +kernel
theorem dX2_pass_40 : decode cX2_pass 40 = .ok (.iconst 1, 1) := by decide +kernel
theorem dX2_pass_41 : decode cX2_pass 41 = .ok (.ireturn, 1) := by decide +kernel
theorem dX2_sign_0 : decode cX2_sign 0 = .ok (.aload_n 0, 1) := by decide +kernel
theorem dX2_sign_1 : decode cX2_sign 1 = .ok (.getfield 25, 3) := by decide +kernel
theorem dX2_sign_4 : decode cX2_sign 4 = .ok (.ifCond .lt 35, 3) := by decide +kernel
theorem dX2_sign_7 : decode cX2_sign 7 = .ok (.aload_n 0, 1) := by decide +kernel
theorem dX2_sign_8 : decode cX2_sign 8 = .ok (.getfield 25, 3) := by decide +kernel
theorem dX2_sign_11 : decode cX2_sign 11 = .ok (.aload_n 0, 1) := by decide +kernel
theorem dX2_sign_12 : decode cX2_sign 12 = .ok (.getfield 36, 3) := by decide +kernel
theorem dX2_sign_15 : decode cX2_sign 15 = .ok (.if_icmp .ge 24, 3) := by decide +kernel
theorem dX2_sign_18 : decode cX2_sign 18 = .ok (.aload_n 0, 1) := by decide +kernel
theorem dX2_sign_19 : decode cX2_sign 19 = .ok (.getfield 25, 3) := by decide +kernel
theorem dX2_sign_22 : decode cX2_sign 22 = .ok (.bipush 80, 2) := by decide +kernel
theorem dX2_sign_24 : decode cX2_sign 24 = .ok (.if_icmp .ge 15, 3) := by decide +kernel
theorem dX2_sign_27 : decode cX2_sign 27 = .ok (.aload_n 0, 1) := by decide +kernel
theorem dX2_sign_28 : decode cX2_sign 28 = .ok (.getfield 9, 3) := by decide +kernel
theorem dX2_sign_31 : decode cX2_sign 31 = .ok (.aload_n 0, 1) := by decide +kernel
theorem dX2_sign_32 : decode cX2_sign 32 = .ok (.getfield 25, 3) := by decide +kernel
theorem dX2_sign_35 : decode cX2_sign 35 = .ok (.caload, 1) := by decide +kernel
theorem dX2_sign_36 : decode cX2_sign 36 = .ok (.goto 4, 3) := by decide +kernel
theorem dX2_sign_39 : decode cX2_sign 39 = .ok (.iconst (-1), 1) := by decide +kernel
theorem dX2_sign_40 : decode cX2_sign 40 = .ok (.ireturn, 1) := by decide +kernel
theorem dX2_digit_0 : decode cX2_digit 0 = .ok (.aload_n 0, 1) := by decide +kernel
theorem dX2_digit_1 : decode cX2_digit 1 = .ok (.invokevirtual 53, 3) := by decide +kernel
theorem dX2_digit_4 : decode cX2_digit 4 = .ok (.istore_n 1, 1) := by decide +kernel
theorem dX2_digit_5 : decode cX2_digit 5 = .ok (.iload_n 1, 1) := by decide +kernel
theorem dX2_digit_6 : decode cX2_digit 6 = .ok (.bipush 48, 2) := by decide +kernel
theorem dX2_digit_8 : decode cX2_digit 8 = .ok (.if_icmp .lt 16, 3) := by decide +kernel
theorem dX2_digit_11 : decode cX2_digit 11 = .ok (.iload_n 1, 1) := by decide +kernel
theorem dX2_digit_12 : decode cX2_digit 12 = .ok (.bipush 57, 2) := by decide +kernel
theorem dX2_digit_14 : decode cX2_digit 14 = .ok (.if_icmp .gt 10, 3) := by decide +kernel
theorem dX2_digit_17 : decode cX2_digit 17 = .ok (.iload_n 1, 1) := by decide +kernel
theorem dX2_digit_18 : decode cX2_digit 18 = .ok (.bipush 48, 2) := by decide +kernel
theorem dX2_digit_20 : decode cX2_digit 20 = .ok (.isub, 1) := by decide +kernel
theorem dX2_digit_21 : decode cX2_digit 21 = .ok (.goto 4, 3) := by decide +kernel
theorem dX2_digit_24 : decode cX2_digit 24 = .ok (.iconst (-1), 1) := by decide +kernel
theorem dX2_digit_25 : decode cX2_digit 25 = .ok (.ireturn, 1) := by decide +kernel
theorem dX3_init_0 : decode cX3_init 0 = .ok (.aload_n 0, 1) := by decide +kernel
theorem dX3_init_1 : decode cX3_init 1 = .ok (.invokespecial 3, 3) := by decide +kernel
theorem dX3_init_4 : decode cX3_init 4 = .ok (.aload_n 0, 1) := by decide +kernel
theorem dX3_init_5 : decode cX3_init 5 = .ok (.iconst 4, 1) := by decide +kernel
theorem dX3_init_6 : decode cX3_init 6 = .ok (.anewarray 9, 3) := by decide +kernel
theorem dX3_init_9 : decode cX3_init 9 = .ok (.putfield 11, 3) := by decide +kernel
theorem dX3_init_12 : decode cX3_init 12 = .ok (.aload_n 0, 1) := by decide +kernel
theorem dX3_init_13 : decode cX3_init 13 = .ok (.bipush 12, 2) := by decide +kernel
theorem dX3_init_15 : decode cX3_init 15 = .ok (.anewarray 17, 3) := by decide +kernel
theorem dX3_init_18 : decode cX3_init 18 = .ok (.putfield 19, 3) := by decide +kernel
theorem dX3_init_21 : decode cX3_init 21 = .ok (.aload_n 0, 1) := by decide +kernel
theorem dX3_init_22 : decode cX3_init 22 = .ok (.iconst 5, 1) := by decide +kernel
theorem dX3_init_23 : decode cX3_init 23 = .ok (.newarray .int, 2) := by decide +kernel
theorem dX3_init_25 : decode cX3_init 25 = .ok (.dup, 1) := by decide +kernel
theorem dX3_init_26 : decode cX3_init 26 = .ok (.iconst 0, 1) := by decide +kernel
theorem dX3_init_27 : decode cX3_init 27 = .ok (.bipush 50, 2) := by decide +kernel
theorem dX3_init_29 : decode cX3_init 29 = .ok (.iastore, 1) := by decide +kernel
theorem dX3_init_30 : decode cX3_init 30 = .ok (.dup, 1) := by decide +kernel
theorem dX3_init_31 : decode cX3_init 31 = .ok (.iconst 1, 1) := by decide +kernel
theorem dX3_init_32 : decode cX3_init 32 = .ok (.iconst 2, 1) := by decide +kernel
theorem dX3_init_33 : decode cX3_init 33 = .ok (.iastore, 1) := by decide +kernel
theorem dX3_init_34 : decode cX3_init 34 = .ok (.dup, 1) := by decide +kernel
theorem dX3_init_35 : decode cX3_init 35 = .ok (.iconst 2, 1) := by decide +kernel
theorem dX3_init_36 : decode cX3_init 36 = .ok (.bipush 20, 2) := by decide +kernel
theorem dX3_init_38 : decode cX3_init 38 = .ok (.iastore, 1) := by decide +kernel
theorem dX3_init_39 : decode cX3_init 39 = .ok (.dup, 1) := by decide +kernel
theorem dX3_init_40 : decode cX3_init 40 = .ok (.iconst 3, 1) := by decide +kernel
theorem dX3_init_41 : decode cX3_init 41 = .ok (.bipush 6, 2) := by decide +kernel
theorem dX3_init_43 : decode cX3_init 43 = .ok (.iastore, 1) := by decide +kernel
theorem dX3_init_44 : decode cX3_init 44 = .ok (.dup, 1) := by decide +kernel
theorem dX3_init_45 : decode cX3_init 45 = .ok (.iconst 4, 1) := by decide +kernel
theorem dX3_init_46 : decode cX3_init 46 = .ok (.iconst 4, 1) := by decide +kernel
theorem dX3_init_47 : decode cX3_init 47 = .ok (.iastore, 1) := by decide +kernel
theorem dX3_init_48 : decode cX3_init 48 = .ok (.putfield 23, 3) := by decide +kernel
theorem dX3_init_51 : decode cX3_init 51 = .ok (.iconst 0, 1) := by decide +kernel
theorem dX3_init_52 : decode cX3_init 52 = .ok (.istore_n 1, 1) := by decide +kernel
theorem dX3_init_53 : decode cX3_init 53 = .ok (.iload_n 1, 1) := by decide +kernel
theorem dX3_init_54 : decode cX3_init 54 = .ok (.iconst 4, 1) := by decide +kernel
theorem dX3_init_55 : decode cX3_init 55 = .ok (.if_icmp .ge 22, 3) := by decide +kernel
theorem dX3_init_58 : decode cX3_init 58 = .ok (.aload_n 0, 1) := by decide +kernel
theorem dX3_init_59 : decode cX3_init 59 = .ok (.getfield 11, 3) := by decide +kernel
theorem dX3_init_62 : decode cX3_init 62 = .ok (.iload_n 1, 1) := by decide +kernel
theorem dX3_init_63 : decode cX3_init 63 = .ok (.new 9, 3) := by decide +kernel
theorem dX3_init_66 : decode cX3_init 66 = .ok (.dup, 1) := by decide +kernel
theorem dX3_init_67 : decode cX3_init 67 = .ok (.invokespecial 27, 3) := by decide +kernel
theorem dX3_init_70 : decode cX3_init 70 = .ok (.aastore, 1) := by decide +kernel
theorem dX3_init_71 : decode cX3_init 71 = .ok (.iinc 1 1, 3) := by decide +kernel
theorem dX3_init_74 : decode cX3_init 74 = .ok (.goto (-21), 3) := by decide +kernel
theorem dX3_init_77 : decode cX3_init 77 = .ok (.iconst 0, 1) := by decide +kernel
theorem dX3_init_78 : decode cX3_init 78 = .ok (.istore_n 1, 1) := by decide +kernel
theorem dX3_init_79 : decode cX3_init 79 = .ok (.iload_n 1, 1) := by decide +kernel
theorem dX3_init_80 : decode cX3_init 80 = .ok (.bipush 12, 2) := by decide +kernel
theorem dX3_init_82 : decode cX3_init 82 = .ok (.if_icmp .ge 22, 3) := by decide +kernel
theorem dX3_init_85 : decode cX3_init 85 = .ok (.aload_n 0, 1) := by decide +kernel
theorem dX3_init_86 : decode cX3_init 86 = .ok (.getfield 19, 3) := by decide +kernel
theorem dX3_init_89 : decode cX3_init 89 = .ok (.iload_n 1, 1) := by decide +kernel
theorem dX3_init_90 : decode cX3_init 90 = .ok (.new 17, 3) := by decide +kernel
theorem dX3_init_93 : decode cX3_init 93 = .ok (.dup, 1) := by decide +kernel
theorem dX3_init_94 : decode cX3_init 94 = .ok (.invokespecial 28, 3) := by decide +kernel
theorem dX3_init_97 : decode cX3_init 97 = .ok (.aastore, 1) := by decide +kernel
theorem dX3_init_98 : decode cX3_init 98 = .ok (.iinc 1 1, 3) := by decide +kernel
theorem dX3_init_101 : decode cX3_init 101 = .ok (.goto (-22), 3) := by decide +kernel
theorem dX3_init_104 : decode cX3_init 104 = .ok (.return_, 1) := by decide +kernel
theorem dX3_copyFrom_0 : decode cX3_copyFrom 0 = .ok (.iconst 0, 1) := by decide +kernel
theorem dX3_copyFrom_1 : decode cX3_copyFrom 1 = .ok (.istore_n 2, 1) := by decide +kernel
theorem dX3_copyFrom_2 : decode cX3_copyFrom 2 = .ok (.iload_n 2, 1) := by decide +kernel
theorem dX3_copyFrom_3 : decode cX3_copyFrom 3 = .ok (.iconst 4, 1) := by decide +kernel
theorem dX3_copyFrom_4 : decode cX3_copyFrom 4 = .ok (.if_icmp .ge 24, 3) := by decide +kernel
theorem dX3_copyFrom_7 : decode cX3_copyFrom 7 = .ok (.aload_n 0, 1) := by decide +kernel
theorem dX3_copyFrom_8 : decode cX3_copyFrom 8 = .ok (.getfield 11, 3) := by decide +kernel
theorem dX3_copyFrom_11 : decode cX3_copyFrom 11 = .ok (.iload_n 2, 1) := by decide +kernel
theorem dX3_copyFrom_12 : decode cX3_copyFrom 12 = .ok (.aaload, 1) := by decide +kernel
theorem dX3_copyFrom_13 : decode cX3_copyFrom 13 = .ok (.aload_n 1, 1) := by decide +kernel
theorem dX3_copyFrom_14 : decode cX3_copyFrom 14 = .ok (.getfield 11, 3) := by decide +kernel
theorem dX3_copyFrom_17 : decode cX3_copyFrom 17 = .ok (.iload_n 2, 1) := by decide +kernel
theorem dX3_copyFrom_18 : decode cX3_copyFrom 18 = .ok (.aaload, 1) := by decide +kernel
theorem dX3_copyFrom_19 : decode cX3_copyFrom 19 = .ok (.invokevirtual 29, 3) := by decide +kernel
theorem dX3_copyFrom_22 : decode cX3_copyFrom 22 = .ok (.iinc 2 1, 3) := by decide +kernel
theorem dX3_copyFrom_25 : decode cX3_copyFrom 25 = .ok (.goto (-23), 3) := by decide +kernel
theorem dX3_copyFrom_28 : decode cX3_copyFrom 28 = .ok (.iconst 0, 1) := by decide +kernel
theorem dX3_copyFrom_29 : decode cX3_copyFrom 29 = .ok (.istore_n 2, 1) := by decide +kernel
theorem dX3_copyFrom_30 : decode cX3_copyFrom 30 = .ok (.iload_n 2, 1) := by decide +kernel
theorem dX3_copyFrom_31 : decode cX3_copyFrom 31 = .ok (.bipush 12, 2) := by decide +kernel
theorem dX3_copyFrom_33 : decode cX3_copyFrom 33 = .ok (.if_icmp .ge 24, 3) := by decide +kernel
theorem dX3_copyFrom_36 : decode cX3_copyFrom 36 = .ok (.aload_n 0, 1) := by decide +kernel
theorem dX3_copyFrom_37 : decode cX3_copyFrom 37 = .ok (.getfield 19, 3) := by decide +kernel
theorem dX3_copyFrom_40 : decode cX3_copyFrom 40 = .ok (.iload_n 2, 1) := by decide +kernel
theorem dX3_copyFrom_41 : decode cX3_copyFrom 41 = .ok (.aaload, 1) := by decide +kernel
theorem dX3_copyFrom_42 : decode cX3_copyFrom 42 = .ok (.aload_n 1, 1) := by decide +kernel
theorem dX3_copyFrom_43 : decode cX3_copyFrom 43 = .ok (.getfield 19, 3) := by decide +kernel
theorem dX3_copyFrom_46 : decode cX3_copyFrom 46 = .ok (.iload_n 2, 1) := by decide +kernel
theorem dX3_copyFrom_47 : decode cX3_copyFrom 47 = .ok (.aaload, 1) := by decide +kernel
theorem dX3_copyFrom_48 : decode cX3_copyFrom 48 = .ok (.invokevirtual 33, 3) := by decide +kernel
theorem dX3_copyFrom_51 : decode cX3_copyFrom 51 = .ok (.iinc 2 1, 3) := by decide +kernel
theorem dX3_copyFrom_54 : decode cX3_copyFrom 54 = .ok (.goto (-24), 3) := by decide +kernel
theorem dX3_copyFrom_57 : decode cX3_copyFrom 57 = .ok (.iconst 0, 1) := by decide +kernel
theorem dX3_copyFrom_58 : decode cX3_copyFrom 58 = .ok (.istore_n 2, 1) := by decide +kernel
theorem dX3_copyFrom_59 : decode cX3_copyFrom 59 = .ok (.iload_n 2, 1) := by decide +kernel
theorem dX3_copyFrom_60 : decode cX3_copyFrom 60 = .ok (.iconst 5, 1) := by decide +kernel
theorem dX3_copyFrom_61 : decode cX3_copyFrom 61 = .ok (.if_icmp .ge 21, 3) := by decide +kernel
theorem dX3_copyFrom_64 : decode cX3_copyFrom 64 = .ok (.aload_n 0, 1) := by decide +kernel
theorem dX3_copyFrom_65 : decode cX3_copyFrom 65 = .ok (.getfield 23, 3) := by decide +kernel
theorem dX3_copyFrom_68 : decode cX3_copyFrom 68 = .ok (.iload_n 2, 1) := by decide +kernel
theorem dX3_copyFrom_69 : decode cX3_copyFrom 69 = .ok (.aload_n 1, 1) := by decide +kernel
theorem dX3_copyFrom_70 : decode cX3_copyFrom 70 = .ok (.getfield 23, 3) := by decide +kernel
theorem dX3_copyFrom_73 : decode cX3_copyFrom 73 = .ok (.iload_n 2, 1) := by decide +kernel
theorem dX3_copyFrom_74 : decode cX3_copyFrom 74 = .ok (.iaload, 1) := by decide +kernel
theorem dX3_copyFrom_75 : decode cX3_copyFrom 75 = .ok (.iastore, 1) := by decide +kernel
theorem dX3_copyFrom_76 : decode cX3_copyFrom 76 = .ok (.iinc 2 1, 3) := by decide +kernel
theorem dX3_copyFrom_79 : decode cX3_copyFrom 79 = .ok (.goto (-20), 3) := by decide +kernel
theorem dX3_copyFrom_82 : decode cX3_copyFrom 82 = .ok (.aload_n 0, 1) := by decide +kernel
theorem dX3_copyFrom_83 : decode cX3_copyFrom 83 = .ok (.aload_n 1, 1) := by decide +kernel
theorem dX3_copyFrom_84 : decode cX3_copyFrom 84 = .ok (.getfield 36, 3) := by decide +kernel
theorem dX3_copyFrom_87 : decode cX3_copyFrom 87 = .ok (.putfield 36, 3) := by decide +kernel
theorem dX3_copyFrom_90 : decode cX3_copyFrom 90 = .ok (.aload_n 0, 1) := by decide +kernel
theorem dX3_copyFrom_91 : decode cX3_copyFrom 91 = .ok (.aload_n 1, 1) := by decide +kernel
theorem dX3_copyFrom_92 : decode cX3_copyFrom 92 = .ok (.getfield 40, 3) := by decide +kernel
theorem dX3_copyFrom_95 : decode cX3_copyFrom 95 = .ok (.putfield 40, 3) := by decide +kernel
theorem dX3_copyFrom_98 : decode cX3_copyFrom 98 = .ok (.aload_n 0, 1) := by decide +kernel
theorem dX3_copyFrom_99 : decode cX3_copyFrom 99 = .ok (.aload_n 1, 1) := by decide +kernel
theorem dX3_copyFrom_100 : decode cX3_copyFrom 100 = .ok (.getfield 43, 3) := by decide +kernel
theorem dX3_copyFrom_103 : decode cX3_copyFrom 103 = .ok (.putfield 43, 3) := by decide +kernel
theorem dX3_copyFrom_106 : decode cX3_copyFrom 106 = .ok (.aload_n 0, 1) := by decide +kernel
theorem dX3_copyFrom_107 : decode cX3_copyFrom 107 = .ok (.aload_n 1, 1) := by decide +kernel
theorem dX3_copyFrom_108 : decode cX3_copyFrom 108 = .ok (.getfield 46, 3) := by decide +kernel
theorem dX3_copyFrom_111 : decode cX3_copyFrom 111 = .ok (.putfield 46, 3) := by decide +kernel
theorem dX3_copyFrom_114 : decode cX3_copyFrom 114 = .ok (.aload_n 0, 1) := by decide +kernel
theorem dX3_copyFrom_115 : decode cX3_copyFrom 115 = .ok (.aload_n 1, 1) := by decide +kernel
theorem dX3_copyFrom_116 : decode cX3_copyFrom 116 = .ok (.getfield 49, 3) := by decide +kernel
theorem dX3_copyFrom_119 : decode cX3_copyFrom 119 = .ok (.putfield 49, 3) := by decide +kernel
theorem dX3_copyFrom_122 : decode cX3_copyFrom 122 = .ok (.aload_n 0, 1) := by decide +kernel
theorem dX3_copyFrom_123 : decode cX3_copyFrom 123 = .ok (.aload_n 1, 1) := by decide +kernel
theorem dX3_copyFrom_124 : decode cX3_copyFrom 124 = .ok (.getfield 52, 3) := by decide +kernel
theorem dX3_copyFrom_127 : decode cX3_copyFrom 127 = .ok (.putfield 52, 3) := by decide +kernel
theorem dX3_copyFrom_130 : decode cX3_copyFrom 130 = .ok (.aload_n 0, 1) := by decide +kernel
theorem dX3_copyFrom_131 : decode cX3_copyFrom 131 = .ok (.aload_n 1, 1) := by decide +kernel
theorem dX3_copyFrom_132 : decode cX3_copyFrom 132 = .ok (.getfield 55, 3) := by decide +kernel
theorem dX3_copyFrom_135 : decode cX3_copyFrom 135 = .ok (.putfield 55, 3) := by decide +kernel
theorem dX3_copyFrom_138 : decode cX3_copyFrom 138 = .ok (.return_, 1) := by decide +kernel
theorem dX3_resize_0 : decode cX3_resize 0 = .ok (.iload_n 2, 1) := by decide +kernel
theorem dX3_resize_1 : decode cX3_resize 1 = .ok (.ifCond .eq 16, 3) := by decide +kernel
theorem dX3_resize_4 : decode cX3_resize 4 = .ok (.aload_n 0, 1) := by decide +kernel
theorem dX3_resize_5 : decode cX3_resize 5 = .ok (.getfield 11, 3) := by decide +kernel
theorem dX3_resize_8 : decode cX3_resize 8 = .ok (.iload_n 1, 1) := by decide +kernel
theorem dX3_resize_9 : decode cX3_resize 9 = .ok (.aaload, 1) := by decide +kernel
theorem dX3_resize_10 : decode cX3_resize 10 = .ok (.iload_n 3, 1) := by decide +kernel
theorem dX3_resize_11 : decode cX3_resize 11 = .ok (.putfield 58, 3) := by decide +kernel
theorem dX3_resize_14 : decode cX3_resize 14 = .ok (.goto 13, 3) := by decide +kernel
theorem dX3_resize_17 : decode cX3_resize 17 = .ok (.aload_n 0, 1) := by decide +kernel
theorem dX3_resize_18 : decode cX3_resize 18 = .ok (.getfield 11, 3) := by decide +kernel
theorem dX3_resize_21 : decode cX3_resize 21 = .ok (.iload_n 1, 1) := by decide +kernel
theorem dX3_resize_22 : decode cX3_resize 22 = .ok (.aaload, 1) := by decide +kernel
theorem dX3_resize_23 : decode cX3_resize 23 = .ok (.iload_n 3, 1) := by decide +kernel
theorem dX3_resize_24 : decode cX3_resize 24 = .ok (.putfield 61, 3) := by decide +kernel
theorem dX3_resize_27 : decode cX3_resize 27 = .ok (.return_, 1) := by decide +kernel
theorem dX3_tableUnder_0 : decode cX3_tableUnder 0 = .ok (.aload_n 0, 1) := by decide +kernel
theorem dX3_tableUnder_1 : decode cX3_tableUnder 1 = .ok (.getfield 11, 3) := by decide +kernel
theorem dX3_tableUnder_4 : decode cX3_tableUnder 4 = .ok (.iload_n 1, 1) := by decide +kernel
theorem dX3_tableUnder_5 : decode cX3_tableUnder 5 = .ok (.iconst 3, 1) := by decide +kernel
theorem dX3_tableUnder_6 : decode cX3_tableUnder 6 = .ok (.idiv, 1) := by decide +kernel
theorem dX3_tableUnder_7 : decode cX3_tableUnder 7 = .ok (.aaload, 1) := by decide +kernel
theorem dX3_tableUnder_8 : decode cX3_tableUnder 8 = .ok (.areturn, 1) := by decide +kernel
theorem dX3_priceBy_0 : decode cX3_priceBy 0 = .ok (.iload_n 1, 1) := by decide +kernel
theorem dX3_priceBy_1 : decode cX3_priceBy 1 = .ok (.iconst 3, 1) := by decide +kernel
theorem dX3_priceBy_2 : decode cX3_priceBy 2 = .ok (.irem, 1) := by decide +kernel
theorem dX3_priceBy_3 : decode cX3_priceBy 3 = .ok (.istore 4, 2) := by decide +kernel
theorem dX3_priceBy_5 : decode cX3_priceBy 5 = .ok (.aload_n 0, 1) := by decide +kernel
theorem dX3_priceBy_6 : decode cX3_priceBy 6 = .ok (.iload_n 1, 1) := by decide +kernel
theorem dX3_priceBy_7 : decode cX3_priceBy 7 = .ok (.invokevirtual 64, 3) := by decide +kernel
theorem dX3_priceBy_10 : decode cX3_priceBy 10 = .ok (.getfield 61, 3) := by decide +kernel
theorem dX3_priceBy_13 : decode cX3_priceBy 13 = .ok (.istore 5, 2) := by decide +kernel
theorem dX3_priceBy_15 : decode cX3_priceBy 15 = .ok (.iload_n 2, 1) := by decide +kernel
theorem dX3_priceBy_16 : decode cX3_priceBy 16 = .ok (.ifCond .ne 28, 3) := by decide +kernel
theorem dX3_priceBy_19 : decode cX3_priceBy 19 = .ok (.iload 4, 2) := by decide +kernel
theorem dX3_priceBy_21 : decode cX3_priceBy 21 = .ok (.iconst 2, 1) := by decide +kernel
theorem dX3_priceBy_22 : decode cX3_priceBy 22 = .ok (.if_icmp .ne 15, 3) := by decide +kernel
theorem dX3_priceBy_25 : decode cX3_priceBy 25 = .ok (.iload 5, 2) := by decide +kernel
theorem dX3_priceBy_27 : decode cX3_priceBy 27 = .ok (.iload_n 3, 1) := by decide +kernel
theorem dX3_priceBy_28 : decode cX3_priceBy 28 = .ok (.iload_n 3, 1) := by decide +kernel
theorem dX3_priceBy_29 : decode cX3_priceBy 29 = .ok (.invokestatic 68, 3) := by decide +kernel
theorem dX3_priceBy_32 : decode cX3_priceBy 32 = .ok (.imul, 1) := by decide +kernel
theorem dX3_priceBy_33 : decode cX3_priceBy 33 = .ok (.iadd, 1) := by decide +kernel
theorem dX3_priceBy_34 : decode cX3_priceBy 34 = .ok (.goto 5, 3) := by decide +kernel
theorem dX3_priceBy_37 : decode cX3_priceBy 37 = .ok (.iload 5, 2) := by decide +kernel
theorem dX3_priceBy_39 : decode cX3_priceBy 39 = .ok (.istore 6, 2) := by decide +kernel
theorem dX3_priceBy_41 : decode cX3_priceBy 41 = .ok (.goto 62, 3) := by decide +kernel
theorem dX3_priceBy_44 : decode cX3_priceBy 44 = .ok (.iload_n 2, 1) := by decide +kernel
theorem dX3_priceBy_45 : decode cX3_priceBy 45 = .ok (.iconst 1, 1) := by decide +kernel
theorem dX3_priceBy_46 : decode cX3_priceBy 46 = .ok (.if_icmp .ne 32, 3) := by decide +kernel
theorem dX3_priceBy_49 : decode cX3_priceBy 49 = .ok (.iload 5, 2) := by decide +kernel
theorem dX3_priceBy_51 : decode cX3_priceBy 51 = .ok (.invokestatic 68, 3) := by decide +kernel
theorem dX3_priceBy_54 : decode cX3_priceBy 54 = .ok (.aload_n 0, 1) := by decide +kernel
theorem dX3_priceBy_55 : decode cX3_priceBy 55 = .ok (.iload_n 1, 1) := by decide +kernel
theorem dX3_priceBy_56 : decode cX3_priceBy 56 = .ok (.iload_n 3, 1) := by decide +kernel
theorem dX3_priceBy_57 : decode cX3_priceBy 57 = .ok (.invokevirtual 72, 3) := by decide +kernel
theorem dX3_priceBy_60 : decode cX3_priceBy 60 = .ok (.iload 4, 2) := by decide +kernel
theorem dX3_priceBy_62 : decode cX3_priceBy 62 = .ok (.iconst 2, 1) := by decide +kernel
theorem dX3_priceBy_63 : decode cX3_priceBy 63 = .ok (.if_icmp .ne 7, 3) := by decide +kernel
theorem dX3_priceBy_66 : decode cX3_priceBy 66 = .ok (.iconst 1, 1) := by decide +kernel
theorem dX3_priceBy_67 : decode cX3_priceBy 67 = .ok (.goto 4, 3) := by decide +kernel
theorem dX3_priceBy_70 : decode cX3_priceBy 70 = .ok (.iconst 3, 1) := by decide +kernel
theorem dX3_priceBy_71 : decode cX3_priceBy 71 = .ok (.imul, 1) := by decide +kernel
theorem dX3_priceBy_72 : decode cX3_priceBy 72 = .ok (.iadd, 1) := by decide +kernel
theorem dX3_priceBy_73 : decode cX3_priceBy 73 = .ok (.istore 6, 2) := by decide +kernel
theorem dX3_priceBy_75 : decode cX3_priceBy 75 = .ok (.goto 28, 3) := by decide +kernel
theorem dX3_priceBy_78 : decode cX3_priceBy 78 = .ok (.iload 4, 2) := by decide +kernel
theorem dX3_priceBy_80 : decode cX3_priceBy 80 = .ok (.iconst 2, 1) := by decide +kernel
theorem dX3_priceBy_81 : decode cX3_priceBy 81 = .ok (.if_icmp .ne 16, 3) := by decide +kernel
theorem dX3_priceBy_84 : decode cX3_priceBy 84 = .ok (.iload 5, 2) := by decide +kernel
theorem dX3_priceBy_86 : decode cX3_priceBy 86 = .ok (.iload_n 3, 1) := by decide +kernel
theorem dX3_priceBy_87 : decode cX3_priceBy 87 = .ok (.iload 5, 2) := by decide +kernel
theorem dX3_priceBy_89 : decode cX3_priceBy 89 = .ok (.invokestatic 68, 3) := by decide +kernel
theorem dX3_priceBy_92 : decode cX3_priceBy 92 = .ok (.imul, 1) := by decide +kernel
theorem dX3_priceBy_93 : decode cX3_priceBy 93 = .ok (.iadd, 1) := by decide +kernel
theorem dX3_priceBy_94 : decode cX3_priceBy 94 = .ok (.goto 7, 3) := by decide +kernel
theorem dX3_priceBy_97 : decode cX3_priceBy 97 = .ok (.iconst 2, 1) := by decide +kernel
theorem dX3_priceBy_98 : decode cX3_priceBy 98 = .ok (.iload 5, 2) := by decide +kernel
theorem dX3_priceBy_100 : decode cX3_priceBy 100 = .ok (.imul, 1) := by decide +kernel
theorem dX3_priceBy_101 : decode cX3_priceBy 101 = .ok (.istore 6, 2) := by decide +kernel
theorem dX3_priceBy_103 : decode cX3_priceBy 103 = .ok (.iload 6, 2) := by decide +kernel
theorem dX3_priceBy_105 : decode cX3_priceBy 105 = .ok (.ldc 76, 2) := by decide +kernel
theorem dX3_priceBy_107 : decode cX3_priceBy 107 = .ok (.invokestatic 77, 3) := by decide +kernel
theorem dX3_priceBy_110 : decode cX3_priceBy 110 = .ok (.ireturn, 1) := by decide +kernel
theorem dX3_rowsMet_0 : decode cX3_rowsMet 0 = .ok (.iload_n 1, 1) := by decide +kernel
theorem dX3_rowsMet_1 : decode cX3_rowsMet 1 = .ok (.iconst 3, 1) := by decide +kernel
theorem dX3_rowsMet_2 : decode cX3_rowsMet 2 = .ok (.irem, 1) := by decide +kernel
theorem dX3_rowsMet_3 : decode cX3_rowsMet 3 = .ok (.iconst 1, 1) := by decide +kernel
theorem dX3_rowsMet_4 : decode cX3_rowsMet 4 = .ok (.if_icmp .eq 5, 3) := by decide +kernel
theorem dX3_rowsMet_7 : decode cX3_rowsMet 7 = .ok (.iload_n 2, 1) := by decide +kernel
theorem dX3_rowsMet_8 : decode cX3_rowsMet 8 = .ok (.ireturn, 1) := by decide +kernel
theorem dX3_rowsMet_9 : decode cX3_rowsMet 9 = .ok (.aload_n 0, 1) := by decide +kernel
theorem dX3_rowsMet_10 : decode cX3_rowsMet 10 = .ok (.iload_n 1, 1) := by decide +kernel
theorem dX3_rowsMet_11 : decode cX3_rowsMet 11 = .ok (.invokevirtual 64, 3) := by decide +kernel
theorem dX3_rowsMet_14 : decode cX3_rowsMet 14 = .ok (.astore_n 3, 1) := by decide +kernel
theorem dX3_rowsMet_15 : decode cX3_rowsMet 15 = .ok (.aload_n 3, 1) := by decide +kernel
theorem dX3_rowsMet_16 : decode cX3_rowsMet 16 = .ok (.getfield 61, 3) := by decide +kernel
theorem dX3_rowsMet_19 : decode cX3_rowsMet 19 = .ok (.iload_n 2, 1) := by decide +kernel
theorem dX3_rowsMet_20 : decode cX3_rowsMet 20 = .ok (.imul, 1) := by decide +kernel
theorem dX3_rowsMet_21 : decode cX3_rowsMet 21 = .ok (.aload_n 3, 1) := by decide +kernel
theorem dX3_rowsMet_22 : decode cX3_rowsMet 22 = .ok (.getfield 58, 3) := by decide +kernel
theorem dX3_rowsMet_25 : decode cX3_rowsMet 25 = .ok (.iadd, 1) := by decide +kernel
theorem dX3_rowsMet_26 : decode cX3_rowsMet 26 = .ok (.iconst 1, 1) := by decide +kernel
theorem dX3_rowsMet_27 : decode cX3_rowsMet 27 = .ok (.isub, 1) := by decide +kernel
theorem dX3_rowsMet_28 : decode cX3_rowsMet 28 = .ok (.aload_n 3, 1) := by decide +kernel
theorem dX3_rowsMet_29 : decode cX3_rowsMet 29 = .ok (.getfield 58, 3) := by decide +kernel
theorem dX3_rowsMet_32 : decode cX3_rowsMet 32 = .ok (.invokestatic 82, 3) := by decide +kernel
theorem dX3_rowsMet_35 : decode cX3_rowsMet 35 = .ok (.istore 4, 2) := by decide +kernel
theorem dX3_rowsMet_37 : decode cX3_rowsMet 37 = .ok (.iload 4, 2) := by decide +kernel
theorem dX3_rowsMet_39 : decode cX3_rowsMet 39 = .ok (.aload_n 3, 1) := by decide +kernel
theorem dX3_rowsMet_40 : decode cX3_rowsMet 40 = .ok (.getfield 61, 3) := by decide +kernel
theorem dX3_rowsMet_43 : decode cX3_rowsMet 43 = .ok (.invokestatic 77, 3) := by decide +kernel
theorem dX3_rowsMet_46 : decode cX3_rowsMet 46 = .ok (.ireturn, 1) := by decide +kernel
theorem dX3_cheapestWay_0 : decode cX3_cheapestWay 0 = .ok (.iconst 0, 1) := by decide +kernel
theorem dX3_cheapestWay_1 : decode cX3_cheapestWay 1 = .ok (.istore_n 3, 1) := by decide +kernel
theorem dX3_cheapestWay_2 : decode cX3_cheapestWay 2 = .ok (.aload_n 0, 1) := by decide +kernel
theorem dX3_cheapestWay_3 : decode cX3_cheapestWay 3 = .ok (.iload_n 1, 1) := by decide +kernel
theorem dX3_cheapestWay_4 : decode cX3_cheapestWay 4 = .ok (.iconst 0, 1) := by decide +kernel
theorem dX3_cheapestWay_5 : decode cX3_cheapestWay 5 = .ok (.iload_n 2, 1) := by decide +kernel
theorem dX3_cheapestWay_6 : decode cX3_cheapestWay 6 = .ok (.invokevirtual 85, 3) := by decide +kernel
theorem dX3_cheapestWay_9 : decode cX3_cheapestWay 9 = .ok (.istore 4, 2) := by decide +kernel
theorem dX3_cheapestWay_11 : decode cX3_cheapestWay 11 = .ok (.iconst 1, 1) := by decide +kernel
theorem dX3_cheapestWay_12 : decode cX3_cheapestWay 12 = .ok (.istore 5, 2) := by decide +kernel
theorem dX3_cheapestWay_14 : decode cX3_cheapestWay 14 = .ok (.iload 5, 2) := by decide +kernel
theorem dX3_cheapestWay_16 : decode cX3_cheapestWay 16 = .ok (.iconst 3, 1) := by decide +kernel
theorem dX3_cheapestWay_17 : decode cX3_cheapestWay 17 = .ok (.if_icmp .ge 33, 3) := by decide +kernel
theorem dX3_cheapestWay_20 : decode cX3_cheapestWay 20 = .ok (.aload_n 0, 1) := by decide +kernel
theorem dX3_cheapestWay_21 : decode cX3_cheapestWay 21 = .ok (.iload_n 1, 1) := by decide +kernel
theorem dX3_cheapestWay_22 : decode cX3_cheapestWay 22 = .ok (.iload 5, 2) := by decide +kernel
theorem dX3_cheapestWay_24 : decode cX3_cheapestWay 24 = .ok (.iload_n 2, 1) := by decide +kernel
theorem dX3_cheapestWay_25 : decode cX3_cheapestWay 25 = .ok (.invokevirtual 85, 3) := by decide +kernel
theorem dX3_cheapestWay_28 : decode cX3_cheapestWay 28 = .ok (.istore 6, 2) := by decide +kernel
theorem dX3_cheapestWay_30 : decode cX3_cheapestWay 30 = .ok (.iload 6, 2) := by decide +kernel
theorem dX3_cheapestWay_32 : decode cX3_cheapestWay 32 = .ok (.iload 4, 2) := by decide +kernel
theorem dX3_cheapestWay_34 : decode cX3_cheapestWay 34 = .ok (.if_icmp .ge 10, 3) := by decide +kernel
theorem dX3_cheapestWay_37 : decode cX3_cheapestWay 37 = .ok (.iload 5, 2) := by decide +kernel
theorem dX3_cheapestWay_39 : decode cX3_cheapestWay 39 = .ok (.istore_n 3, 1) := by decide +kernel
theorem dX3_cheapestWay_40 : decode cX3_cheapestWay 40 = .ok (.iload 6, 2) := by decide +kernel
theorem dX3_cheapestWay_42 : decode cX3_cheapestWay 42 = .ok (.istore 4, 2) := by decide +kernel
theorem dX3_cheapestWay_44 : decode cX3_cheapestWay 44 = .ok (.iinc 5 1, 3) := by decide +kernel
theorem dX3_cheapestWay_47 : decode cX3_cheapestWay 47 = .ok (.goto (-33), 3) := by decide +kernel
theorem dX3_cheapestWay_50 : decode cX3_cheapestWay 50 = .ok (.iload_n 3, 1) := by decide +kernel
theorem dX3_cheapestWay_51 : decode cX3_cheapestWay 51 = .ok (.ireturn, 1) := by decide +kernel
theorem dX3_rowsChangedTooMuch_0 : decode cX3_rowsChangedTooMuch 0 = .ok (.aload_n 0, 1) := by decide +kernel
theorem dX3_rowsChangedTooMuch_1 : decode cX3_rowsChangedTooMuch 1 = .ok (.getfield 19, 3) := by decide +kernel
theorem dX3_rowsChangedTooMuch_4 : decode cX3_rowsChangedTooMuch 4 = .ok (.iload_n 1, 1) := by decide +kernel
theorem dX3_rowsChangedTooMuch_5 : decode cX3_rowsChangedTooMuch 5 = .ok (.aaload, 1) := by decide +kernel
theorem dX3_rowsChangedTooMuch_6 : decode cX3_rowsChangedTooMuch 6 = .ok (.getfield 89, 3) := by decide +kernel
theorem dX3_rowsChangedTooMuch_9 : decode cX3_rowsChangedTooMuch 9 = .ok (.istore_n 2, 1) := by decide +kernel
theorem dX3_rowsChangedTooMuch_10 : decode cX3_rowsChangedTooMuch 10 = .ok (.aload_n 0, 1) := by decide +kernel
theorem dX3_rowsChangedTooMuch_11 : decode cX3_rowsChangedTooMuch 11 = .ok (.iload_n 1, 1) := by decide +kernel
theorem dX3_rowsChangedTooMuch_12 : decode cX3_rowsChangedTooMuch 12 = .ok (.invokevirtual 64, 3) := by decide +kernel
theorem dX3_rowsChangedTooMuch_15 : decode cX3_rowsChangedTooMuch 15 = .ok (.getfield 61, 3) := by decide +kernel
theorem dX3_rowsChangedTooMuch_18 : decode cX3_rowsChangedTooMuch 18 = .ok (.iload_n 2, 1) := by decide +kernel
theorem dX3_rowsChangedTooMuch_19 : decode cX3_rowsChangedTooMuch 19 = .ok (.isub, 1) := by decide +kernel
theorem dX3_rowsChangedTooMuch_20 : decode cX3_rowsChangedTooMuch 20 = .ok (.invokestatic 90, 3) := by decide +kernel
theorem dX3_rowsChangedTooMuch_23 : decode cX3_rowsChangedTooMuch 23 = .ok (.iload_n 2, 1) := by decide +kernel
theorem dX3_rowsChangedTooMuch_24 : decode cX3_rowsChangedTooMuch 24 = .ok (.iconst 2, 1) := by decide +kernel
theorem dX3_rowsChangedTooMuch_25 : decode cX3_rowsChangedTooMuch 25 = .ok (.idiv, 1) := by decide +kernel
theorem dX3_rowsChangedTooMuch_26 : decode cX3_rowsChangedTooMuch 26 = .ok (.if_icmp .le 7, 3) := by decide +kernel
theorem dX3_rowsChangedTooMuch_29 : decode cX3_rowsChangedTooMuch 29 = .ok (.iconst 1, 1) := by decide +kernel
theorem dX3_rowsChangedTooMuch_30 : decode cX3_rowsChangedTooMuch 30 = .ok (.goto 4, 3) := by decide +kernel
theorem dX3_rowsChangedTooMuch_33 : decode cX3_rowsChangedTooMuch 33 = .ok (.iconst 0, 1) := by decide +kernel
theorem dX3_rowsChangedTooMuch_34 : decode cX3_rowsChangedTooMuch 34 = .ok (.ireturn, 1) := by decide +kernel
theorem dX3_isTooOld_0 : decode cX3_isTooOld 0 = .ok (.aload_n 0, 1) := by decide +kernel
theorem dX3_isTooOld_1 : decode cX3_isTooOld 1 = .ok (.getfield 36, 3) := by decide +kernel
theorem dX3_isTooOld_4 : decode cX3_isTooOld 4 = .ok (.aload_n 0, 1) := by decide +kernel
theorem dX3_isTooOld_5 : decode cX3_isTooOld 5 = .ok (.getfield 19, 3) := by decide +kernel
theorem dX3_isTooOld_8 : decode cX3_isTooOld 8 = .ok (.iload_n 1, 1) := by decide +kernel
theorem dX3_isTooOld_9 : decode cX3_isTooOld 9 = .ok (.aaload, 1) := by decide +kernel
theorem dX3_isTooOld_10 : decode cX3_isTooOld 10 = .ok (.getfield 93, 3) := by decide +kernel
theorem dX3_isTooOld_13 : decode cX3_isTooOld 13 = .ok (.isub, 1) := by decide +kernel
theorem dX3_isTooOld_14 : decode cX3_isTooOld 14 = .ok (.aload_n 0, 1) := by decide +kernel
theorem dX3_isTooOld_15 : decode cX3_isTooOld 15 = .ok (.getfield 23, 3) := by decide +kernel
theorem dX3_isTooOld_18 : decode cX3_isTooOld 18 = .ok (.iconst 2, 1) := by decide +kernel
theorem dX3_isTooOld_19 : decode cX3_isTooOld 19 = .ok (.iaload, 1) := by decide +kernel
theorem dX3_isTooOld_20 : decode cX3_isTooOld 20 = .ok (.if_icmp .le 7, 3) := by decide +kernel
theorem dX3_isTooOld_23 : decode cX3_isTooOld 23 = .ok (.iconst 1, 1) := by decide +kernel
theorem dX3_isTooOld_24 : decode cX3_isTooOld 24 = .ok (.goto 4, 3) := by decide +kernel
theorem dX3_isTooOld_27 : decode cX3_isTooOld 27 = .ok (.iconst 0, 1) := by decide +kernel
theorem dX3_isTooOld_28 : decode cX3_isTooOld 28 = .ok (.ireturn, 1) := by decide +kernel
theorem dX3_isStale_0 : decode cX3_isStale 0 = .ok (.aload_n 0, 1) := by decide +kernel
theorem dX3_isStale_1 : decode cX3_isStale 1 = .ok (.iload_n 1, 1) := by decide +kernel
theorem dX3_isStale_2 : decode cX3_isStale 2 = .ok (.invokevirtual 96, 3) := by decide +kernel
theorem dX3_isStale_5 : decode cX3_isStale 5 = .ok (.ifCond .ne 11, 3) := by decide +kernel
theorem dX3_isStale_8 : decode cX3_isStale 8 = .ok (.aload_n 0, 1) := by decide +kernel
theorem dX3_isStale_9 : decode cX3_isStale 9 = .ok (.iload_n 1, 1) := by decide +kernel
theorem dX3_isStale_10 : decode cX3_isStale 10 = .ok (.invokevirtual 100, 3) := by decide +kernel
theorem dX3_isStale_13 : decode cX3_isStale 13 = .ok (.ifCond .eq 7, 3) := by decide +kernel
theorem dX3_isStale_16 : decode cX3_isStale 16 = .ok (.iconst 1, 1) := by decide +kernel
theorem dX3_isStale_17 : decode cX3_isStale 17 = .ok (.goto 4, 3) := by decide +kernel
theorem dX3_isStale_20 : decode cX3_isStale 20 = .ok (.iconst 0, 1) := by decide +kernel
theorem dX3_isStale_21 : decode cX3_isStale 21 = .ok (.ireturn, 1) := by decide +kernel
theorem dX3_isTooDear_0 : decode cX3_isTooDear 0 = .ok (.iload_n 2, 1) := by decide +kernel
theorem dX3_isTooDear_1 : decode cX3_isTooDear 1 = .ok (.aload_n 0, 1) := by decide +kernel
theorem dX3_isTooDear_2 : decode cX3_isTooDear 2 = .ok (.getfield 23, 3) := by decide +kernel
theorem dX3_isTooDear_5 : decode cX3_isTooDear 5 = .ok (.iconst 4, 1) := by decide +kernel
theorem dX3_isTooDear_6 : decode cX3_isTooDear 6 = .ok (.iaload, 1) := by decide +kernel
theorem dX3_isTooDear_7 : decode cX3_isTooDear 7 = .ok (.aload_n 0, 1) := by decide +kernel
theorem dX3_isTooDear_8 : decode cX3_isTooDear 8 = .ok (.getfield 19, 3) := by decide +kernel
theorem dX3_isTooDear_11 : decode cX3_isTooDear 11 = .ok (.iload_n 1, 1) := by decide +kernel
theorem dX3_isTooDear_12 : decode cX3_isTooDear 12 = .ok (.aaload, 1) := by decide +kernel
theorem dX3_isTooDear_13 : decode cX3_isTooDear 13 = .ok (.getfield 103, 3) := by decide +kernel
theorem dX3_isTooDear_16 : decode cX3_isTooDear 16 = .ok (.imul, 1) := by decide +kernel
theorem dX3_isTooDear_17 : decode cX3_isTooDear 17 = .ok (.if_icmp .le 7, 3) := by decide +kernel
theorem dX3_isTooDear_20 : decode cX3_isTooDear 20 = .ok (.iconst 1, 1) := by decide +kernel
theorem dX3_isTooDear_21 : decode cX3_isTooDear 21 = .ok (.goto 4, 3) := by decide +kernel
theorem dX3_isTooDear_24 : decode cX3_isTooDear 24 = .ok (.iconst 0, 1) := by decide +kernel
theorem dX3_isTooDear_25 : decode cX3_isTooDear 25 = .ok (.ireturn, 1) := by decide +kernel
theorem dX3_whyNotUsed_0 : decode cX3_whyNotUsed 0 = .ok (.aload_n 0, 1) := by decide +kernel
theorem dX3_whyNotUsed_1 : decode cX3_whyNotUsed 1 = .ok (.getfield 19, 3) := by decide +kernel
theorem dX3_whyNotUsed_4 : decode cX3_whyNotUsed 4 = .ok (.iload_n 1, 1) := by decide +kernel
theorem dX3_whyNotUsed_5 : decode cX3_whyNotUsed 5 = .ok (.aaload, 1) := by decide +kernel
theorem dX3_whyNotUsed_6 : decode cX3_whyNotUsed 6 = .ok (.astore_n 3, 1) := by decide +kernel
theorem dX3_whyNotUsed_7 : decode cX3_whyNotUsed 7 = .ok (.aload_n 3, 1) := by decide +kernel
theorem dX3_whyNotUsed_8 : decode cX3_whyNotUsed 8 = .ok (.getfield 106, 3) := by decide +kernel
theorem dX3_whyNotUsed_11 : decode cX3_whyNotUsed 11 = .ok (.ifCond .ne 5, 3) := by decide +kernel
theorem dX3_whyNotUsed_14 : decode cX3_whyNotUsed 14 = .ok (.iconst 1, 1) := by decide +kernel
theorem dX3_whyNotUsed_15 : decode cX3_whyNotUsed 15 = .ok (.ireturn, 1) := by decide +kernel
theorem dX3_whyNotUsed_16 : decode cX3_whyNotUsed 16 = .ok (.iload_n 2, 1) := by decide +kernel
theorem dX3_whyNotUsed_17 : decode cX3_whyNotUsed 17 = .ok (.aload_n 3, 1) := by decide +kernel
theorem dX3_whyNotUsed_18 : decode cX3_whyNotUsed 18 = .ok (.getfield 110, 3) := by decide +kernel
theorem dX3_whyNotUsed_21 : decode cX3_whyNotUsed 21 = .ok (.if_icmp .ge 5, 3) := by decide +kernel
theorem dX3_whyNotUsed_24 : decode cX3_whyNotUsed 24 = .ok (.iconst 2, 1) := by decide +kernel
theorem dX3_whyNotUsed_25 : decode cX3_whyNotUsed 25 = .ok (.ireturn, 1) := by decide +kernel
theorem dX3_whyNotUsed_26 : decode cX3_whyNotUsed 26 = .ok (.iload_n 2, 1) := by decide +kernel
theorem dX3_whyNotUsed_27 : decode cX3_whyNotUsed 27 = .ok (.aload_n 3, 1) := by decide +kernel
theorem dX3_whyNotUsed_28 : decode cX3_whyNotUsed 28 = .ok (.getfield 113, 3) := by decide +kernel
theorem dX3_whyNotUsed_31 : decode cX3_whyNotUsed 31 = .ok (.if_icmp .le 5, 3) := by decide +kernel
theorem dX3_whyNotUsed_34 : decode cX3_whyNotUsed 34 = .ok (.iconst 3, 1) := by decide +kernel
theorem dX3_whyNotUsed_35 : decode cX3_whyNotUsed 35 = .ok (.ireturn, 1) := by decide +kernel
theorem dX3_whyNotUsed_36 : decode cX3_whyNotUsed 36 = .ok (.aload_n 0, 1) := by decide +kernel
theorem dX3_whyNotUsed_37 : decode cX3_whyNotUsed 37 = .ok (.iload_n 1, 1) := by decide +kernel
theorem dX3_whyNotUsed_38 : decode cX3_whyNotUsed 38 = .ok (.invokevirtual 96, 3) := by decide +kernel
theorem dX3_whyNotUsed_41 : decode cX3_whyNotUsed 41 = .ok (.ifCond .eq 5, 3) := by decide +kernel
theorem dX3_whyNotUsed_44 : decode cX3_whyNotUsed 44 = .ok (.iconst 4, 1) := by decide +kernel
theorem dX3_whyNotUsed_45 : decode cX3_whyNotUsed 45 = .ok (.ireturn, 1) := by decide +kernel
theorem dX3_whyNotUsed_46 : decode cX3_whyNotUsed 46 = .ok (.aload_n 0, 1) := by decide +kernel
theorem dX3_whyNotUsed_47 : decode cX3_whyNotUsed 47 = .ok (.iload_n 1, 1) := by decide +kernel
theorem dX3_whyNotUsed_48 : decode cX3_whyNotUsed 48 = .ok (.invokevirtual 100, 3) := by decide +kernel
theorem dX3_whyNotUsed_51 : decode cX3_whyNotUsed 51 = .ok (.ifCond .eq 7, 3) := by decide +kernel
theorem dX3_whyNotUsed_54 : decode cX3_whyNotUsed 54 = .ok (.iconst 5, 1) := by decide +kernel
theorem dX3_whyNotUsed_55 : decode cX3_whyNotUsed 55 = .ok (.goto 4, 3) := by decide +kernel
theorem dX3_whyNotUsed_58 : decode cX3_whyNotUsed 58 = .ok (.iconst 0, 1) := by decide +kernel
theorem dX3_whyNotUsed_59 : decode cX3_whyNotUsed 59 = .ok (.ireturn, 1) := by decide +kernel
theorem dX3_answer_0 : decode cX3_answer 0 = .ok (.aload_n 0, 1) := by decide +kernel
theorem dX3_answer_1 : decode cX3_answer 1 = .ok (.iload_n 1, 1) := by decide +kernel
theorem dX3_answer_2 : decode cX3_answer 2 = .ok (.iload_n 2, 1) := by decide +kernel
theorem dX3_answer_3 : decode cX3_answer 3 = .ok (.invokevirtual 116, 3) := by decide +kernel
theorem dX3_answer_6 : decode cX3_answer 6 = .ok (.ifCond .ne 7, 3) := by decide +kernel
theorem dX3_answer_9 : decode cX3_answer 9 = .ok (.iconst 1, 1) := by decide +kernel
theorem dX3_answer_10 : decode cX3_answer 10 = .ok (.goto 4, 3) := by decide +kernel
theorem dX3_answer_13 : decode cX3_answer 13 = .ok (.iconst 0, 1) := by decide +kernel
theorem dX3_answer_14 : decode cX3_answer 14 = .ok (.istore_n 3, 1) := by decide +kernel
theorem dX3_answer_15 : decode cX3_answer 15 = .ok (.aload_n 0, 1) := by decide +kernel
theorem dX3_answer_16 : decode cX3_answer 16 = .ok (.dup, 1) := by decide +kernel
theorem dX3_answer_17 : decode cX3_answer 17 = .ok (.getfield 36, 3) := by decide +kernel
theorem dX3_answer_20 : decode cX3_answer 20 = .ok (.iconst 1, 1) := by decide +kernel
theorem dX3_answer_21 : decode cX3_answer 21 = .ok (.iadd, 1) := by decide +kernel
theorem dX3_answer_22 : decode cX3_answer 22 = .ok (.putfield 36, 3) := by decide +kernel
theorem dX3_answer_25 : decode cX3_answer 25 = .ok (.iload_n 3, 1) := by decide +kernel
theorem dX3_answer_26 : decode cX3_answer 26 = .ok (.ifCond .eq 12, 3) := by decide +kernel
theorem dX3_answer_29 : decode cX3_answer 29 = .ok (.aload_n 0, 1) := by decide +kernel
theorem dX3_answer_30 : decode cX3_answer 30 = .ok (.iload_n 1, 1) := by decide +kernel
theorem dX3_answer_31 : decode cX3_answer 31 = .ok (.iload_n 2, 1) := by decide +kernel
theorem dX3_answer_32 : decode cX3_answer 32 = .ok (.invokevirtual 119, 3) := by decide +kernel
theorem dX3_answer_35 : decode cX3_answer 35 = .ok (.goto 9, 3) := by decide +kernel
theorem dX3_answer_38 : decode cX3_answer 38 = .ok (.aload_n 0, 1) := by decide +kernel
theorem dX3_answer_39 : decode cX3_answer 39 = .ok (.iload_n 1, 1) := by decide +kernel
theorem dX3_answer_40 : decode cX3_answer 40 = .ok (.iload_n 2, 1) := by decide +kernel
theorem dX3_answer_41 : decode cX3_answer 41 = .ok (.invokevirtual 122, 3) := by decide +kernel
theorem dX3_answer_44 : decode cX3_answer 44 = .ok (.istore 4, 2) := by decide +kernel
theorem dX3_answer_46 : decode cX3_answer 46 = .ok (.aload_n 0, 1) := by decide +kernel
theorem dX3_answer_47 : decode cX3_answer 47 = .ok (.dup, 1) := by decide +kernel
theorem dX3_answer_48 : decode cX3_answer 48 = .ok (.getfield 46, 3) := by decide +kernel
theorem dX3_answer_51 : decode cX3_answer 51 = .ok (.iload 4, 2) := by decide +kernel
theorem dX3_answer_53 : decode cX3_answer 53 = .ok (.iadd, 1) := by decide +kernel
theorem dX3_answer_54 : decode cX3_answer 54 = .ok (.putfield 46, 3) := by decide +kernel
theorem dX3_answer_57 : decode cX3_answer 57 = .ok (.aload_n 0, 1) := by decide +kernel
theorem dX3_answer_58 : decode cX3_answer 58 = .ok (.iload_n 1, 1) := by decide +kernel
theorem dX3_answer_59 : decode cX3_answer 59 = .ok (.invokevirtual 64, 3) := by decide +kernel
theorem dX3_answer_62 : decode cX3_answer 62 = .ok (.astore 5, 2) := by decide +kernel
theorem dX3_answer_64 : decode cX3_answer 64 = .ok (.aload 5, 2) := by decide +kernel
theorem dX3_answer_66 : decode cX3_answer 66 = .ok (.dup, 1) := by decide +kernel
theorem dX3_answer_67 : decode cX3_answer 67 = .ok (.getfield 125, 3) := by decide +kernel
theorem dX3_answer_70 : decode cX3_answer 70 = .ok (.iconst 1, 1) := by decide +kernel
theorem dX3_answer_71 : decode cX3_answer 71 = .ok (.iadd, 1) := by decide +kernel
theorem dX3_answer_72 : decode cX3_answer 72 = .ok (.putfield 125, 3) := by decide +kernel
theorem dX3_answer_75 : decode cX3_answer 75 = .ok (.aload 5, 2) := by decide +kernel
theorem dX3_answer_77 : decode cX3_answer 77 = .ok (.dup, 1) := by decide +kernel
theorem dX3_answer_78 : decode cX3_answer 78 = .ok (.getfield 126, 3) := by decide +kernel
theorem dX3_answer_81 : decode cX3_answer 81 = .ok (.iload 4, 2) := by decide +kernel
theorem dX3_answer_83 : decode cX3_answer 83 = .ok (.iadd, 1) := by decide +kernel
theorem dX3_answer_84 : decode cX3_answer 84 = .ok (.putfield 126, 3) := by decide +kernel
theorem dX3_answer_87 : decode cX3_answer 87 = .ok (.iload 4, 2) := by decide +kernel
theorem dX3_answer_89 : decode cX3_answer 89 = .ok (.ireturn, 1) := by decide +kernel
theorem dX3_answerByPlan_0 : decode cX3_answerByPlan 0 = .ok (.aload_n 0, 1) := by decide +kernel
theorem dX3_answerByPlan_1 : decode cX3_answerByPlan 1 = .ok (.getfield 19, 3) := by decide +kernel
theorem dX3_answerByPlan_4 : decode cX3_answerByPlan 4 = .ok (.iload_n 1, 1) := by decide +kernel
theorem dX3_answerByPlan_5 : decode cX3_answerByPlan 5 = .ok (.aaload, 1) := by decide +kernel
theorem dX3_answerByPlan_6 : decode cX3_answerByPlan 6 = .ok (.astore_n 3, 1) := by decide +kernel
theorem dX3_answerByPlan_7 : decode cX3_answerByPlan 7 = .ok (.aload_n 0, 1) := by decide +kernel
theorem dX3_answerByPlan_8 : decode cX3_answerByPlan 8 = .ok (.iload_n 1, 1) := by decide +kernel
theorem dX3_answerByPlan_9 : decode cX3_answerByPlan 9 = .ok (.aload_n 3, 1) := by decide +kernel
theorem dX3_answerByPlan_10 : decode cX3_answerByPlan 10 = .ok (.getfield 127, 3) := by decide +kernel
theorem dX3_answerByPlan_13 : decode cX3_answerByPlan 13 = .ok (.iload_n 2, 1) := by decide +kernel
theorem dX3_answerByPlan_14 : decode cX3_answerByPlan 14 = .ok (.invokevirtual 85, 3) := by decide +kernel
theorem dX3_answerByPlan_17 : decode cX3_answerByPlan 17 = .ok (.istore 4, 2) := by decide +kernel
theorem dX3_answerByPlan_19 : decode cX3_answerByPlan 19 = .ok (.aload_n 0, 1) := by decide +kernel
theorem dX3_answerByPlan_20 : decode cX3_answerByPlan 20 = .ok (.dup, 1) := by decide +kernel
theorem dX3_answerByPlan_21 : decode cX3_answerByPlan 21 = .ok (.getfield 40, 3) := by decide +kernel
theorem dX3_answerByPlan_24 : decode cX3_answerByPlan 24 = .ok (.iconst 1, 1) := by decide +kernel
theorem dX3_answerByPlan_25 : decode cX3_answerByPlan 25 = .ok (.iadd, 1) := by decide +kernel
theorem dX3_answerByPlan_26 : decode cX3_answerByPlan 26 = .ok (.putfield 40, 3) := by decide +kernel
theorem dX3_answerByPlan_29 : decode cX3_answerByPlan 29 = .ok (.aload_n 3, 1) := by decide +kernel
theorem dX3_answerByPlan_30 : decode cX3_answerByPlan 30 = .ok (.dup, 1) := by decide +kernel
theorem dX3_answerByPlan_31 : decode cX3_answerByPlan 31 = .ok (.getfield 130, 3) := by decide +kernel
theorem dX3_answerByPlan_34 : decode cX3_answerByPlan 34 = .ok (.iconst 1, 1) := by decide +kernel
theorem dX3_answerByPlan_35 : decode cX3_answerByPlan 35 = .ok (.iadd, 1) := by decide +kernel
theorem dX3_answerByPlan_36 : decode cX3_answerByPlan 36 = .ok (.putfield 130, 3) := by decide +kernel
theorem dX3_answerByPlan_39 : decode cX3_answerByPlan 39 = .ok (.aload_n 3, 1) := by decide +kernel
theorem dX3_answerByPlan_40 : decode cX3_answerByPlan 40 = .ok (.aload_n 0, 1) := by decide +kernel
theorem dX3_answerByPlan_41 : decode cX3_answerByPlan 41 = .ok (.getfield 36, 3) := by decide +kernel
theorem dX3_answerByPlan_44 : decode cX3_answerByPlan 44 = .ok (.putfield 133, 3) := by decide +kernel
theorem dX3_answerByPlan_47 : decode cX3_answerByPlan 47 = .ok (.aload_n 0, 1) := by decide +kernel
theorem dX3_answerByPlan_48 : decode cX3_answerByPlan 48 = .ok (.iload_n 1, 1) := by decide +kernel
theorem dX3_answerByPlan_49 : decode cX3_answerByPlan 49 = .ok (.iload 4, 2) := by decide +kernel
theorem dX3_answerByPlan_51 : decode cX3_answerByPlan 51 = .ok (.invokevirtual 136, 3) := by decide +kernel
theorem dX3_answerByPlan_54 : decode cX3_answerByPlan 54 = .ok (.ifCond .eq 18, 3) := by decide +kernel
theorem dX3_answerByPlan_57 : decode cX3_answerByPlan 57 = .ok (.aload_n 3, 1) := by decide +kernel
theorem dX3_answerByPlan_58 : decode cX3_answerByPlan 58 = .ok (.iconst 0, 1) := by decide +kernel
theorem dX3_answerByPlan_59 : decode cX3_answerByPlan 59 = .ok (.putfield 106, 3) := by decide +kernel
theorem dX3_answerByPlan_62 : decode cX3_answerByPlan 62 = .ok (.aload_n 0, 1) := by decide +kernel
theorem dX3_answerByPlan_63 : decode cX3_answerByPlan 63 = .ok (.dup, 1) := by decide +kernel
theorem dX3_answerByPlan_64 : decode cX3_answerByPlan 64 = .ok (.getfield 52, 3) := by decide +kernel
theorem dX3_answerByPlan_67 : decode cX3_answerByPlan 67 = .ok (.iconst 1, 1) := by decide +kernel
theorem dX3_answerByPlan_68 : decode cX3_answerByPlan 68 = .ok (.iadd, 1) := by decide +kernel
theorem dX3_answerByPlan_69 : decode cX3_answerByPlan 69 = .ok (.putfield 52, 3) := by decide +kernel
theorem dX3_answerByPlan_72 : decode cX3_answerByPlan 72 = .ok (.iload 4, 2) := by decide +kernel
theorem dX3_answerByPlan_74 : decode cX3_answerByPlan 74 = .ok (.ireturn, 1) := by decide +kernel
theorem dX3_answerByLooking_0 : decode cX3_answerByLooking 0 = .ok (.aload_n 0, 1) := by decide +kernel
theorem dX3_answerByLooking_1 : decode cX3_answerByLooking 1 = .ok (.iload_n 1, 1) := by decide +kernel
theorem dX3_answerByLooking_2 : decode cX3_answerByLooking 2 = .ok (.iload_n 2, 1) := by decide +kernel
theorem dX3_answerByLooking_3 : decode cX3_answerByLooking 3 = .ok (.invokevirtual 140, 3) := by decide +kernel
theorem dX3_answerByLooking_6 : decode cX3_answerByLooking 6 = .ok (.istore_n 3, 1) := by decide +kernel
theorem dX3_answerByLooking_7 : decode cX3_answerByLooking 7 = .ok (.aload_n 0, 1) := by decide +kernel
theorem dX3_answerByLooking_8 : decode cX3_answerByLooking 8 = .ok (.dup, 1) := by decide +kernel
theorem dX3_answerByLooking_9 : decode cX3_answerByLooking 9 = .ok (.getfield 43, 3) := by decide +kernel
theorem dX3_answerByLooking_12 : decode cX3_answerByLooking 12 = .ok (.iconst 1, 1) := by decide +kernel
theorem dX3_answerByLooking_13 : decode cX3_answerByLooking 13 = .ok (.iadd, 1) := by decide +kernel
theorem dX3_answerByLooking_14 : decode cX3_answerByLooking 14 = .ok (.putfield 43, 3) := by decide +kernel
theorem dX3_answerByLooking_17 : decode cX3_answerByLooking 17 = .ok (.aload_n 0, 1) := by decide +kernel
theorem dX3_answerByLooking_18 : decode cX3_answerByLooking 18 = .ok (.dup, 1) := by decide +kernel
theorem dX3_answerByLooking_19 : decode cX3_answerByLooking 19 = .ok (.getfield 49, 3) := by decide +kernel
theorem dX3_answerByLooking_22 : decode cX3_answerByLooking 22 = .ok (.aload_n 0, 1) := by decide +kernel
theorem dX3_answerByLooking_23 : decode cX3_answerByLooking 23 = .ok (.getfield 23, 3) := by decide +kernel
theorem dX3_answerByLooking_26 : decode cX3_answerByLooking 26 = .ok (.iconst 0, 1) := by decide +kernel
theorem dX3_answerByLooking_27 : decode cX3_answerByLooking 27 = .ok (.iaload, 1) := by decide +kernel
theorem dX3_answerByLooking_28 : decode cX3_answerByLooking 28 = .ok (.iadd, 1) := by decide +kernel
theorem dX3_answerByLooking_29 : decode cX3_answerByLooking 29 = .ok (.putfield 49, 3) := by decide +kernel
theorem dX3_answerByLooking_32 : decode cX3_answerByLooking 32 = .ok (.aload_n 0, 1) := by decide +kernel
theorem dX3_answerByLooking_33 : decode cX3_answerByLooking 33 = .ok (.iload_n 1, 1) := by decide +kernel
theorem dX3_answerByLooking_34 : decode cX3_answerByLooking 34 = .ok (.invokevirtual 143, 3) := by decide +kernel
theorem dX3_answerByLooking_37 : decode cX3_answerByLooking 37 = .ok (.aload_n 0, 1) := by decide +kernel
theorem dX3_answerByLooking_38 : decode cX3_answerByLooking 38 = .ok (.iload_n 1, 1) := by decide +kernel
theorem dX3_answerByLooking_39 : decode cX3_answerByLooking 39 = .ok (.invokevirtual 147, 3) := by decide +kernel
theorem dX3_answerByLooking_42 : decode cX3_answerByLooking 42 = .ok (.ifCond .eq 28, 3) := by decide +kernel
theorem dX3_answerByLooking_45 : decode cX3_answerByLooking 45 = .ok (.aload_n 0, 1) := by decide +kernel
theorem dX3_answerByLooking_46 : decode cX3_answerByLooking 46 = .ok (.getfield 23, 3) := by decide +kernel
theorem dX3_answerByLooking_49 : decode cX3_answerByLooking 49 = .ok (.iconst 1, 1) := by decide +kernel
theorem dX3_answerByLooking_50 : decode cX3_answerByLooking 50 = .ok (.iaload, 1) := by decide +kernel
theorem dX3_answerByLooking_51 : decode cX3_answerByLooking 51 = .ok (.istore 4, 2) := by decide +kernel
theorem dX3_answerByLooking_53 : decode cX3_answerByLooking 53 = .ok (.aload_n 0, 1) := by decide +kernel
theorem dX3_answerByLooking_54 : decode cX3_answerByLooking 54 = .ok (.iload_n 1, 1) := by decide +kernel
theorem dX3_answerByLooking_55 : decode cX3_answerByLooking 55 = .ok (.iload_n 3, 1) := by decide +kernel
theorem dX3_answerByLooking_56 : decode cX3_answerByLooking 56 = .ok (.iload_n 2, 1) := by decide +kernel
theorem dX3_answerByLooking_57 : decode cX3_answerByLooking 57 = .ok (.iload_n 2, 1) := by decide +kernel
theorem dX3_answerByLooking_58 : decode cX3_answerByLooking 58 = .ok (.iload 4, 2) := by decide +kernel
theorem dX3_answerByLooking_60 : decode cX3_answerByLooking 60 = .ok (.invokestatic 82, 3) := by decide +kernel
theorem dX3_answerByLooking_63 : decode cX3_answerByLooking 63 = .ok (.iload_n 2, 1) := by decide +kernel
theorem dX3_answerByLooking_64 : decode cX3_answerByLooking 64 = .ok (.iload 4, 2) := by decide +kernel
theorem dX3_answerByLooking_66 : decode cX3_answerByLooking 66 = .ok (.imul, 1) := by decide +kernel
theorem dX3_answerByLooking_67 : decode cX3_answerByLooking 67 = .ok (.invokevirtual 150, 3) := by decide +kernel
theorem dX3_answerByLooking_70 : decode cX3_answerByLooking 70 = .ok (.aload_n 0, 1) := by decide +kernel
theorem dX3_answerByLooking_71 : decode cX3_answerByLooking 71 = .ok (.iload_n 1, 1) := by decide +kernel
theorem dX3_answerByLooking_72 : decode cX3_answerByLooking 72 = .ok (.iload_n 3, 1) := by decide +kernel
theorem dX3_answerByLooking_73 : decode cX3_answerByLooking 73 = .ok (.iload_n 2, 1) := by decide +kernel
theorem dX3_answerByLooking_74 : decode cX3_answerByLooking 74 = .ok (.invokevirtual 85, 3) := by decide +kernel
theorem dX3_answerByLooking_77 : decode cX3_answerByLooking 77 = .ok (.aload_n 0, 1) := by decide +kernel
theorem dX3_answerByLooking_78 : decode cX3_answerByLooking 78 = .ok (.getfield 23, 3) := by decide +kernel
theorem dX3_answerByLooking_81 : decode cX3_answerByLooking 81 = .ok (.iconst 0, 1) := by decide +kernel
theorem dX3_answerByLooking_82 : decode cX3_answerByLooking 82 = .ok (.iaload, 1) := by decide +kernel
theorem dX3_answerByLooking_83 : decode cX3_answerByLooking 83 = .ok (.iadd, 1) := by decide +kernel
theorem dX3_answerByLooking_84 : decode cX3_answerByLooking 84 = .ok (.ireturn, 1) := by decide +kernel
theorem dX3_place_0 : decode cX3_place 0 = .ok (.aload_n 0, 1) := by decide +kernel
theorem dX3_place_1 : decode cX3_place 1 = .ok (.getfield 19, 3) := by decide +kernel
theorem dX3_place_4 : decode cX3_place 4 = .ok (.iload_n 1, 1) := by decide +kernel
theorem dX3_place_5 : decode cX3_place 5 = .ok (.aaload, 1) := by decide +kernel
theorem dX3_place_6 : decode cX3_place 6 = .ok (.astore 6, 2) := by decide +kernel
theorem dX3_place_8 : decode cX3_place 8 = .ok (.aload 6, 2) := by decide +kernel
theorem dX3_place_10 : decode cX3_place 10 = .ok (.iconst 1, 1) := by decide +kernel
theorem dX3_place_11 : decode cX3_place 11 = .ok (.putfield 106, 3) := by decide +kernel
theorem dX3_place_14 : decode cX3_place 14 = .ok (.aload 6, 2) := by decide +kernel
theorem dX3_place_16 : decode cX3_place 16 = .ok (.iconst 0, 1) := by decide +kernel
theorem dX3_place_17 : decode cX3_place 17 = .ok (.putfield 154, 3) := by decide +kernel
theorem dX3_place_20 : decode cX3_place 20 = .ok (.aload 6, 2) := by decide +kernel
theorem dX3_place_22 : decode cX3_place 22 = .ok (.iload_n 2, 1) := by decide +kernel
theorem dX3_place_23 : decode cX3_place 23 = .ok (.putfield 127, 3) := by decide +kernel
theorem dX3_place_26 : decode cX3_place 26 = .ok (.aload 6, 2) := by decide +kernel
theorem dX3_place_28 : decode cX3_place 28 = .ok (.iload 4, 2) := by decide +kernel
theorem dX3_place_30 : decode cX3_place 30 = .ok (.putfield 110, 3) := by decide +kernel
theorem dX3_place_33 : decode cX3_place 33 = .ok (.aload 6, 2) := by decide +kernel
theorem dX3_place_35 : decode cX3_place 35 = .ok (.iload 5, 2) := by decide +kernel
theorem dX3_place_37 : decode cX3_place 37 = .ok (.putfield 113, 3) := by decide +kernel
theorem dX3_place_40 : decode cX3_place 40 = .ok (.aload 6, 2) := by decide +kernel
theorem dX3_place_42 : decode cX3_place 42 = .ok (.iload_n 3, 1) := by decide +kernel
theorem dX3_place_43 : decode cX3_place 43 = .ok (.putfield 157, 3) := by decide +kernel
theorem dX3_place_46 : decode cX3_place 46 = .ok (.aload 6, 2) := by decide +kernel
theorem dX3_place_48 : decode cX3_place 48 = .ok (.aload_n 0, 1) := by decide +kernel
theorem dX3_place_49 : decode cX3_place 49 = .ok (.iload_n 1, 1) := by decide +kernel
theorem dX3_place_50 : decode cX3_place 50 = .ok (.iload_n 2, 1) := by decide +kernel
theorem dX3_place_51 : decode cX3_place 51 = .ok (.iload_n 3, 1) := by decide +kernel
theorem dX3_place_52 : decode cX3_place 52 = .ok (.invokevirtual 85, 3) := by decide +kernel
theorem dX3_place_55 : decode cX3_place 55 = .ok (.putfield 103, 3) := by decide +kernel
theorem dX3_place_58 : decode cX3_place 58 = .ok (.aload 6, 2) := by decide +kernel
theorem dX3_place_60 : decode cX3_place 60 = .ok (.aload_n 0, 1) := by decide +kernel
theorem dX3_place_61 : decode cX3_place 61 = .ok (.iload_n 1, 1) := by decide +kernel
theorem dX3_place_62 : decode cX3_place 62 = .ok (.invokevirtual 64, 3) := by decide +kernel
theorem dX3_place_65 : decode cX3_place 65 = .ok (.getfield 61, 3) := by decide +kernel
theorem dX3_place_68 : decode cX3_place 68 = .ok (.putfield 89, 3) := by decide +kernel
theorem dX3_place_71 : decode cX3_place 71 = .ok (.aload 6, 2) := by decide +kernel
theorem dX3_place_73 : decode cX3_place 73 = .ok (.iconst 0, 1) := by decide +kernel
theorem dX3_place_74 : decode cX3_place 74 = .ok (.putfield 130, 3) := by decide +kernel
theorem dX3_place_77 : decode cX3_place 77 = .ok (.aload 6, 2) := by decide +kernel
theorem dX3_place_79 : decode cX3_place 79 = .ok (.aload_n 0, 1) := by decide +kernel
theorem dX3_place_80 : decode cX3_place 80 = .ok (.getfield 36, 3) := by decide +kernel
theorem dX3_place_83 : decode cX3_place 83 = .ok (.putfield 93, 3) := by decide +kernel
theorem dX3_place_86 : decode cX3_place 86 = .ok (.aload 6, 2) := by decide +kernel
theorem dX3_place_88 : decode cX3_place 88 = .ok (.aload_n 0, 1) := by decide +kernel
theorem dX3_place_89 : decode cX3_place 89 = .ok (.getfield 36, 3) := by decide +kernel
theorem dX3_place_92 : decode cX3_place 92 = .ok (.putfield 133, 3) := by decide +kernel
theorem dX3_place_95 : decode cX3_place 95 = .ok (.return_, 1) := by decide +kernel
theorem dX3_couldKeep_0 : decode cX3_couldKeep 0 = .ok (.aload_n 0, 1) := by decide +kernel
theorem dX3_couldKeep_1 : decode cX3_couldKeep 1 = .ok (.getfield 19, 3) := by decide +kernel
theorem dX3_couldKeep_4 : decode cX3_couldKeep 4 = .ok (.iload_n 1, 1) := by decide +kernel
theorem dX3_couldKeep_5 : decode cX3_couldKeep 5 = .ok (.aaload, 1) := by decide +kernel
theorem dX3_couldKeep_6 : decode cX3_couldKeep 6 = .ok (.getfield 106, 3) := by decide +kernel
theorem dX3_couldKeep_9 : decode cX3_couldKeep 9 = .ok (.ifCond .ne 16, 3) := by decide +kernel
theorem dX3_couldKeep_12 : decode cX3_couldKeep 12 = .ok (.aload_n 0, 1) := by decide +kernel
theorem dX3_couldKeep_13 : decode cX3_couldKeep 13 = .ok (.invokevirtual 160, 3) := by decide +kernel
theorem dX3_couldKeep_16 : decode cX3_couldKeep 16 = .ok (.aload_n 0, 1) := by decide +kernel
theorem dX3_couldKeep_17 : decode cX3_couldKeep 17 = .ok (.getfield 23, 3) := by decide +kernel
theorem dX3_couldKeep_20 : decode cX3_couldKeep 20 = .ok (.iconst 3, 1) := by decide +kernel
theorem dX3_couldKeep_21 : decode cX3_couldKeep 21 = .ok (.iaload, 1) := by decide +kernel
theorem dX3_couldKeep_22 : decode cX3_couldKeep 22 = .ok (.if_icmp .ge 7, 3) := by decide +kernel
theorem dX3_couldKeep_25 : decode cX3_couldKeep 25 = .ok (.iconst 1, 1) := by decide +kernel
theorem dX3_couldKeep_26 : decode cX3_couldKeep 26 = .ok (.goto 4, 3) := by decide +kernel
theorem dX3_couldKeep_29 : decode cX3_couldKeep 29 = .ok (.iconst 0, 1) := by decide +kernel
theorem dX3_couldKeep_30 : decode cX3_couldKeep 30 = .ok (.ireturn, 1) := by decide +kernel
theorem dX3_lacksRoomFor_0 : decode cX3_lacksRoomFor 0 = .ok (.aload_n 0, 1) := by decide +kernel
theorem dX3_lacksRoomFor_1 : decode cX3_lacksRoomFor 1 = .ok (.getfield 19, 3) := by decide +kernel
theorem dX3_lacksRoomFor_4 : decode cX3_lacksRoomFor 4 = .ok (.iload_n 1, 1) := by decide +kernel
theorem dX3_lacksRoomFor_5 : decode cX3_lacksRoomFor 5 = .ok (.aaload, 1) := by decide +kernel
theorem dX3_lacksRoomFor_6 : decode cX3_lacksRoomFor 6 = .ok (.getfield 106, 3) := by decide +kernel
theorem dX3_lacksRoomFor_9 : decode cX3_lacksRoomFor 9 = .ok (.ifCond .ne 20, 3) := by decide +kernel
theorem dX3_lacksRoomFor_12 : decode cX3_lacksRoomFor 12 = .ok (.aload_n 0, 1) := by decide +kernel
theorem dX3_lacksRoomFor_13 : decode cX3_lacksRoomFor 13 = .ok (.invokevirtual 164, 3) := by decide +kernel
theorem dX3_lacksRoomFor_16 : decode cX3_lacksRoomFor 16 = .ok (.aload_n 0, 1) := by decide +kernel
theorem dX3_lacksRoomFor_17 : decode cX3_lacksRoomFor 17 = .ok (.getfield 23, 3) := by decide +kernel
theorem dX3_lacksRoomFor_20 : decode cX3_lacksRoomFor 20 = .ok (.iconst 3, 1) := by decide +kernel
theorem dX3_lacksRoomFor_21 : decode cX3_lacksRoomFor 21 = .ok (.iaload, 1) := by decide +kernel
theorem dX3_lacksRoomFor_22 : decode cX3_lacksRoomFor 22 = .ok (.if_icmp .lt 7, 3) := by decide +kernel
theorem dX3_lacksRoomFor_25 : decode cX3_lacksRoomFor 25 = .ok (.iconst 1, 1) := by decide +kernel
theorem dX3_lacksRoomFor_26 : decode cX3_lacksRoomFor 26 = .ok (.goto 4, 3) := by decide +kernel
theorem dX3_lacksRoomFor_29 : decode cX3_lacksRoomFor 29 = .ok (.iconst 0, 1) := by decide +kernel
theorem dX3_lacksRoomFor_30 : decode cX3_lacksRoomFor 30 = .ok (.ireturn, 1) := by decide +kernel
theorem dX3_firstCrowdedOutBy_0 : decode cX3_firstCrowdedOutBy 0 = .ok (.aload_n 0, 1) := by decide +kernel
theorem dX3_firstCrowdedOutBy_1 : decode cX3_firstCrowdedOutBy 1 = .ok (.iload_n 1, 1) := by decide +kernel
theorem dX3_firstCrowdedOutBy_2 : decode cX3_firstCrowdedOutBy 2 = .ok (.invokevirtual 167, 3) := by decide +kernel
theorem dX3_firstCrowdedOutBy_5 : decode cX3_firstCrowdedOutBy 5 = .ok (.ifCond .eq 10, 3) := by decide +kernel
theorem dX3_firstCrowdedOutBy_8 : decode cX3_firstCrowdedOutBy 8 = .ok (.aload_n 0, 1) := by decide +kernel
theorem dX3_firstCrowdedOutBy_9 : decode cX3_firstCrowdedOutBy 9 = .ok (.invokevirtual 170, 3) := by decide +kernel
theorem dX3_firstCrowdedOutBy_12 : decode cX3_firstCrowdedOutBy 12 = .ok (.goto 5, 3) := by decide +kernel
theorem dX3_firstCrowdedOutBy_15 : decode cX3_firstCrowdedOutBy 15 = .ok (.bipush (-4), 2) := by decide +kernel
theorem dX3_firstCrowdedOutBy_17 : decode cX3_firstCrowdedOutBy 17 = .ok (.ireturn, 1) := by decide +kernel
theorem dX3_makeRoomFor_0 : decode cX3_makeRoomFor 0 = .ok (.aload_n 0, 1) := by decide +kernel
theorem dX3_makeRoomFor_1 : decode cX3_makeRoomFor 1 = .ok (.iload_n 1, 1) := by decide +kernel
theorem dX3_makeRoomFor_2 : decode cX3_makeRoomFor 2 = .ok (.invokevirtual 167, 3) := by decide +kernel
theorem dX3_makeRoomFor_5 : decode cX3_makeRoomFor 5 = .ok (.ifCond .eq 15, 3) := by decide +kernel
theorem dX3_makeRoomFor_8 : decode cX3_makeRoomFor 8 = .ok (.aload_n 0, 1) := by decide +kernel
theorem dX3_makeRoomFor_9 : decode cX3_makeRoomFor 9 = .ok (.aload_n 0, 1) := by decide +kernel
theorem dX3_makeRoomFor_10 : decode cX3_makeRoomFor 10 = .ok (.getfield 23, 3) := by decide +kernel
theorem dX3_makeRoomFor_13 : decode cX3_makeRoomFor 13 = .ok (.iconst 3, 1) := by decide +kernel
theorem dX3_makeRoomFor_14 : decode cX3_makeRoomFor 14 = .ok (.iaload, 1) := by decide +kernel
theorem dX3_makeRoomFor_15 : decode cX3_makeRoomFor 15 = .ok (.iconst 1, 1) := by decide +kernel
theorem dX3_makeRoomFor_16 : decode cX3_makeRoomFor 16 = .ok (.isub, 1) := by decide +kernel
theorem dX3_makeRoomFor_17 : decode cX3_makeRoomFor 17 = .ok (.invokevirtual 173, 3) := by decide +kernel
theorem dX3_makeRoomFor_20 : decode cX3_makeRoomFor 20 = .ok (.return_, 1) := by decide +kernel
theorem dX3_crowdOutDownTo_0 : decode cX3_crowdOutDownTo 0 = .ok (.aload_n 0, 1) := by decide +kernel
theorem dX3_crowdOutDownTo_1 : decode cX3_crowdOutDownTo 1 = .ok (.invokevirtual 164, 3) := by decide +kernel
theorem dX3_crowdOutDownTo_4 : decode cX3_crowdOutDownTo 4 = .ok (.iload_n 1, 1) := by decide +kernel
theorem dX3_crowdOutDownTo_5 : decode cX3_crowdOutDownTo 5 = .ok (.isub, 1) := by decide +kernel
theorem dX3_crowdOutDownTo_6 : decode cX3_crowdOutDownTo 6 = .ok (.istore_n 2, 1) := by decide +kernel
theorem dX3_crowdOutDownTo_7 : decode cX3_crowdOutDownTo 7 = .ok (.iconst 0, 1) := by decide +kernel
theorem dX3_crowdOutDownTo_8 : decode cX3_crowdOutDownTo 8 = .ok (.istore_n 3, 1) := by decide +kernel
theorem dX3_crowdOutDownTo_9 : decode cX3_crowdOutDownTo 9 = .ok (.iload_n 3, 1) := by decide +kernel
theorem dX3_crowdOutDownTo_10 : decode cX3_crowdOutDownTo 10 = .ok (.iload_n 2, 1) := by decide +kernel
theorem dX3_crowdOutDownTo_11 : decode cX3_crowdOutDownTo 11 = .ok (.if_icmp .ge 42, 3) := by decide +kernel
theorem dX3_crowdOutDownTo_14 : decode cX3_crowdOutDownTo 14 = .ok (.aload_n 0, 1) := by decide +kernel
theorem dX3_crowdOutDownTo_15 : decode cX3_crowdOutDownTo 15 = .ok (.invokevirtual 170, 3) := by decide +kernel
theorem dX3_crowdOutDownTo_18 : decode cX3_crowdOutDownTo 18 = .ok (.istore 4, 2) := by decide +kernel
theorem dX3_crowdOutDownTo_20 : decode cX3_crowdOutDownTo 20 = .ok (.iload 4, 2) := by decide +kernel
theorem dX3_crowdOutDownTo_22 : decode cX3_crowdOutDownTo 22 = .ok (.ifCond .ge 4, 3) := by decide +kernel
theorem dX3_crowdOutDownTo_25 : decode cX3_crowdOutDownTo 25 = .ok (.return_, 1) := by decide +kernel
theorem dX3_crowdOutDownTo_26 : decode cX3_crowdOutDownTo 26 = .ok (.aload_n 0, 1) := by decide +kernel
theorem dX3_crowdOutDownTo_27 : decode cX3_crowdOutDownTo 27 = .ok (.getfield 19, 3) := by decide +kernel
theorem dX3_crowdOutDownTo_30 : decode cX3_crowdOutDownTo 30 = .ok (.iload 4, 2) := by decide +kernel
theorem dX3_crowdOutDownTo_32 : decode cX3_crowdOutDownTo 32 = .ok (.aaload, 1) := by decide +kernel
theorem dX3_crowdOutDownTo_33 : decode cX3_crowdOutDownTo 33 = .ok (.iconst 0, 1) := by decide +kernel
theorem dX3_crowdOutDownTo_34 : decode cX3_crowdOutDownTo 34 = .ok (.putfield 106, 3) := by decide +kernel
theorem dX3_crowdOutDownTo_37 : decode cX3_crowdOutDownTo 37 = .ok (.aload_n 0, 1) := by decide +kernel
theorem dX3_crowdOutDownTo_38 : decode cX3_crowdOutDownTo 38 = .ok (.dup, 1) := by decide +kernel
theorem dX3_crowdOutDownTo_39 : decode cX3_crowdOutDownTo 39 = .ok (.getfield 55, 3) := by decide +kernel
theorem dX3_crowdOutDownTo_42 : decode cX3_crowdOutDownTo 42 = .ok (.iconst 1, 1) := by decide +kernel
theorem dX3_crowdOutDownTo_43 : decode cX3_crowdOutDownTo 43 = .ok (.iadd, 1) := by decide +kernel
theorem dX3_crowdOutDownTo_44 : decode cX3_crowdOutDownTo 44 = .ok (.putfield 55, 3) := by decide +kernel
theorem dX3_crowdOutDownTo_47 : decode cX3_crowdOutDownTo 47 = .ok (.iinc 3 1, 3) := by decide +kernel
theorem dX3_crowdOutDownTo_50 : decode cX3_crowdOutDownTo 50 = .ok (.goto (-41), 3) := by decide +kernel
theorem dX3_crowdOutDownTo_53 : decode cX3_crowdOutDownTo 53 = .ok (.return_, 1) := by decide +kernel
theorem dX3_oldestUnpinned_0 : decode cX3_oldestUnpinned 0 = .ok (.bipush (-4), 2) := by decide +kernel
theorem dX3_oldestUnpinned_2 : decode cX3_oldestUnpinned 2 = .ok (.istore_n 1, 1) := by decide +kernel
theorem dX3_oldestUnpinned_3 : decode cX3_oldestUnpinned 3 = .ok (.iconst 0, 1) := by decide +kernel
theorem dX3_oldestUnpinned_4 : decode cX3_oldestUnpinned 4 = .ok (.istore_n 2, 1) := by decide +kernel
theorem dX3_oldestUnpinned_5 : decode cX3_oldestUnpinned 5 = .ok (.iconst 0, 1) := by decide +kernel
theorem dX3_oldestUnpinned_6 : decode cX3_oldestUnpinned 6 = .ok (.istore_n 3, 1) := by decide +kernel
theorem dX3_oldestUnpinned_7 : decode cX3_oldestUnpinned 7 = .ok (.iload_n 3, 1) := by decide +kernel
theorem dX3_oldestUnpinned_8 : decode cX3_oldestUnpinned 8 = .ok (.bipush 12, 2) := by decide +kernel
theorem dX3_oldestUnpinned_10 : decode cX3_oldestUnpinned 10 = .ok (.if_icmp .ge 68, 3) := by decide +kernel
theorem dX3_oldestUnpinned_13 : decode cX3_oldestUnpinned 13 = .ok (.aload_n 0, 1) := by decide +kernel
theorem dX3_oldestUnpinned_14 : decode cX3_oldestUnpinned 14 = .ok (.getfield 19, 3) := by decide +kernel
theorem dX3_oldestUnpinned_17 : decode cX3_oldestUnpinned 17 = .ok (.iload_n 3, 1) := by decide +kernel
theorem dX3_oldestUnpinned_18 : decode cX3_oldestUnpinned 18 = .ok (.aaload, 1) := by decide +kernel
theorem dX3_oldestUnpinned_19 : decode cX3_oldestUnpinned 19 = .ok (.astore 4, 2) := by decide +kernel
theorem dX3_oldestUnpinned_21 : decode cX3_oldestUnpinned 21 = .ok (.iload_n 1, 1) := by decide +kernel
theorem dX3_oldestUnpinned_22 : decode cX3_oldestUnpinned 22 = .ok (.bipush (-4), 2) := by decide +kernel
theorem dX3_oldestUnpinned_24 : decode cX3_oldestUnpinned 24 = .ok (.if_icmp .eq 12, 3) := by decide +kernel
theorem dX3_oldestUnpinned_27 : decode cX3_oldestUnpinned 27 = .ok (.aload 4, 2) := by decide +kernel
theorem dX3_oldestUnpinned_29 : decode cX3_oldestUnpinned 29 = .ok (.getfield 133, 3) := by decide +kernel
theorem dX3_oldestUnpinned_32 : decode cX3_oldestUnpinned 32 = .ok (.iload_n 2, 1) := by decide +kernel
theorem dX3_oldestUnpinned_33 : decode cX3_oldestUnpinned 33 = .ok (.if_icmp .ge 7, 3) := by decide +kernel
theorem dX3_oldestUnpinned_36 : decode cX3_oldestUnpinned 36 = .ok (.iconst 1, 1) := by decide +kernel
theorem dX3_oldestUnpinned_37 : decode cX3_oldestUnpinned 37 = .ok (.goto 4, 3) := by decide +kernel
theorem dX3_oldestUnpinned_40 : decode cX3_oldestUnpinned 40 = .ok (.iconst 0, 1) := by decide +kernel
theorem dX3_oldestUnpinned_41 : decode cX3_oldestUnpinned 41 = .ok (.istore 5, 2) := by decide +kernel
theorem dX3_oldestUnpinned_43 : decode cX3_oldestUnpinned 43 = .ok (.aload 4, 2) := by decide +kernel
theorem dX3_oldestUnpinned_45 : decode cX3_oldestUnpinned 45 = .ok (.getfield 106, 3) := by decide +kernel
theorem dX3_oldestUnpinned_48 : decode cX3_oldestUnpinned 48 = .ok (.ifCond .eq 24, 3) := by decide +kernel
theorem dX3_oldestUnpinned_51 : decode cX3_oldestUnpinned 51 = .ok (.aload 4, 2) := by decide +kernel
theorem dX3_oldestUnpinned_53 : decode cX3_oldestUnpinned 53 = .ok (.getfield 154, 3) := by decide +kernel
theorem dX3_oldestUnpinned_56 : decode cX3_oldestUnpinned 56 = .ok (.ifCond .ne 16, 3) := by decide +kernel
theorem dX3_oldestUnpinned_59 : decode cX3_oldestUnpinned 59 = .ok (.iload 5, 2) := by decide +kernel
theorem dX3_oldestUnpinned_61 : decode cX3_oldestUnpinned 61 = .ok (.ifCond .eq 11, 3) := by decide +kernel
theorem dX3_oldestUnpinned_64 : decode cX3_oldestUnpinned 64 = .ok (.iload_n 3, 1) := by decide +kernel
theorem dX3_oldestUnpinned_65 : decode cX3_oldestUnpinned 65 = .ok (.istore_n 1, 1) := by decide +kernel
theorem dX3_oldestUnpinned_66 : decode cX3_oldestUnpinned 66 = .ok (.aload 4, 2) := by decide +kernel
theorem dX3_oldestUnpinned_68 : decode cX3_oldestUnpinned 68 = .ok (.getfield 133, 3) := by decide +kernel
theorem dX3_oldestUnpinned_71 : decode cX3_oldestUnpinned 71 = .ok (.istore_n 2, 1) := by decide +kernel
theorem dX3_oldestUnpinned_72 : decode cX3_oldestUnpinned 72 = .ok (.iinc 3 1, 3) := by decide +kernel
theorem dX3_oldestUnpinned_75 : decode cX3_oldestUnpinned 75 = .ok (.goto (-68), 3) := by decide +kernel
theorem dX3_oldestUnpinned_78 : decode cX3_oldestUnpinned 78 = .ok (.iload_n 1, 1) := by decide +kernel
theorem dX3_oldestUnpinned_79 : decode cX3_oldestUnpinned 79 = .ok (.ireturn, 1) := by decide +kernel
theorem dX3_keptPlansOf_0 : decode cX3_keptPlansOf 0 = .ok (.iconst 0, 1) := by decide +kernel
theorem dX3_keptPlansOf_1 : decode cX3_keptPlansOf 1 = .ok (.istore_n 2, 1) := by decide +kernel
theorem dX3_keptPlansOf_2 : decode cX3_keptPlansOf 2 = .ok (.iconst 0, 1) := by decide +kernel
theorem dX3_keptPlansOf_3 : decode cX3_keptPlansOf 3 = .ok (.istore_n 3, 1) := by decide +kernel
theorem dX3_keptPlansOf_4 : decode cX3_keptPlansOf 4 = .ok (.iload_n 3, 1) := by decide +kernel
theorem dX3_keptPlansOf_5 : decode cX3_keptPlansOf 5 = .ok (.iconst 3, 1) := by decide +kernel
theorem dX3_keptPlansOf_6 : decode cX3_keptPlansOf 6 = .ok (.if_icmp .ge 28, 3) := by decide +kernel
theorem dX3_keptPlansOf_9 : decode cX3_keptPlansOf 9 = .ok (.aload_n 0, 1) := by decide +kernel
theorem dX3_keptPlansOf_10 : decode cX3_keptPlansOf 10 = .ok (.getfield 19, 3) := by decide +kernel
theorem dX3_keptPlansOf_13 : decode cX3_keptPlansOf 13 = .ok (.iconst 3, 1) := by decide +kernel
theorem dX3_keptPlansOf_14 : decode cX3_keptPlansOf 14 = .ok (.iload_n 1, 1) := by decide +kernel
theorem dX3_keptPlansOf_15 : decode cX3_keptPlansOf 15 = .ok (.imul, 1) := by decide +kernel
theorem dX3_keptPlansOf_16 : decode cX3_keptPlansOf 16 = .ok (.iload_n 3, 1) := by decide +kernel
theorem dX3_keptPlansOf_17 : decode cX3_keptPlansOf 17 = .ok (.iadd, 1) := by decide +kernel
theorem dX3_keptPlansOf_18 : decode cX3_keptPlansOf 18 = .ok (.aaload, 1) := by decide +kernel
theorem dX3_keptPlansOf_19 : decode cX3_keptPlansOf 19 = .ok (.getfield 106, 3) := by decide +kernel
theorem dX3_keptPlansOf_22 : decode cX3_keptPlansOf 22 = .ok (.ifCond .eq 6, 3) := by decide +kernel
theorem dX3_keptPlansOf_25 : decode cX3_keptPlansOf 25 = .ok (.iinc 2 1, 3) := by decide +kernel
theorem dX3_keptPlansOf_28 : decode cX3_keptPlansOf 28 = .ok (.iinc 3 1, 3) := by decide +kernel
theorem dX3_keptPlansOf_31 : decode cX3_keptPlansOf 31 = .ok (.goto (-27), 3) := by decide +kernel
theorem dX3_keptPlansOf_34 : decode cX3_keptPlansOf 34 = .ok (.iload_n 2, 1) := by decide +kernel
theorem dX3_keptPlansOf_35 : decode cX3_keptPlansOf 35 = .ok (.ireturn, 1) := by decide +kernel
theorem dX3_keptPlans_0 : decode cX3_keptPlans 0 = .ok (.iconst 0, 1) := by decide +kernel
theorem dX3_keptPlans_1 : decode cX3_keptPlans 1 = .ok (.istore_n 1, 1) := by decide +kernel
theorem dX3_keptPlans_2 : decode cX3_keptPlans 2 = .ok (.iconst 0, 1) := by decide +kernel
theorem dX3_keptPlans_3 : decode cX3_keptPlans 3 = .ok (.istore_n 2, 1) := by decide +kernel
theorem dX3_keptPlans_4 : decode cX3_keptPlans 4 = .ok (.iload_n 2, 1) := by decide +kernel
theorem dX3_keptPlans_5 : decode cX3_keptPlans 5 = .ok (.bipush 12, 2) := by decide +kernel
theorem dX3_keptPlans_7 : decode cX3_keptPlans 7 = .ok (.if_icmp .ge 24, 3) := by decide +kernel
theorem dX3_keptPlans_10 : decode cX3_keptPlans 10 = .ok (.aload_n 0, 1) := by decide +kernel
theorem dX3_keptPlans_11 : decode cX3_keptPlans 11 = .ok (.getfield 19, 3) := by decide +kernel
theorem dX3_keptPlans_14 : decode cX3_keptPlans 14 = .ok (.iload_n 2, 1) := by decide +kernel
theorem dX3_keptPlans_15 : decode cX3_keptPlans 15 = .ok (.aaload, 1) := by decide +kernel
theorem dX3_keptPlans_16 : decode cX3_keptPlans 16 = .ok (.getfield 106, 3) := by decide +kernel
theorem dX3_keptPlans_19 : decode cX3_keptPlans 19 = .ok (.ifCond .eq 6, 3) := by decide +kernel
theorem dX3_keptPlans_22 : decode cX3_keptPlans 22 = .ok (.iinc 1 1, 3) := by decide +kernel
theorem dX3_keptPlans_25 : decode cX3_keptPlans 25 = .ok (.iinc 2 1, 3) := by decide +kernel
theorem dX3_keptPlans_28 : decode cX3_keptPlans 28 = .ok (.goto (-24), 3) := by decide +kernel
theorem dX3_keptPlans_31 : decode cX3_keptPlans 31 = .ok (.iload_n 1, 1) := by decide +kernel
theorem dX3_keptPlans_32 : decode cX3_keptPlans 32 = .ok (.ireturn, 1) := by decide +kernel
theorem dX3_pinnedPlans_0 : decode cX3_pinnedPlans 0 = .ok (.iconst 0, 1) := by decide +kernel
theorem dX3_pinnedPlans_1 : decode cX3_pinnedPlans 1 = .ok (.istore_n 1, 1) := by decide +kernel
theorem dX3_pinnedPlans_2 : decode cX3_pinnedPlans 2 = .ok (.iconst 0, 1) := by decide +kernel
theorem dX3_pinnedPlans_3 : decode cX3_pinnedPlans 3 = .ok (.istore_n 2, 1) := by decide +kernel
theorem dX3_pinnedPlans_4 : decode cX3_pinnedPlans 4 = .ok (.iload_n 2, 1) := by decide +kernel
theorem dX3_pinnedPlans_5 : decode cX3_pinnedPlans 5 = .ok (.bipush 12, 2) := by decide +kernel
theorem dX3_pinnedPlans_7 : decode cX3_pinnedPlans 7 = .ok (.if_icmp .ge 36, 3) := by decide +kernel
theorem dX3_pinnedPlans_10 : decode cX3_pinnedPlans 10 = .ok (.aload_n 0, 1) := by decide +kernel
theorem dX3_pinnedPlans_11 : decode cX3_pinnedPlans 11 = .ok (.getfield 19, 3) := by decide +kernel
theorem dX3_pinnedPlans_14 : decode cX3_pinnedPlans 14 = .ok (.iload_n 2, 1) := by decide +kernel
theorem dX3_pinnedPlans_15 : decode cX3_pinnedPlans 15 = .ok (.aaload, 1) := by decide +kernel
theorem dX3_pinnedPlans_16 : decode cX3_pinnedPlans 16 = .ok (.getfield 106, 3) := by decide +kernel
theorem dX3_pinnedPlans_19 : decode cX3_pinnedPlans 19 = .ok (.ifCond .eq 18, 3) := by decide +kernel
theorem dX3_pinnedPlans_22 : decode cX3_pinnedPlans 22 = .ok (.aload_n 0, 1) := by decide +kernel
theorem dX3_pinnedPlans_23 : decode cX3_pinnedPlans 23 = .ok (.getfield 19, 3) := by decide +kernel
theorem dX3_pinnedPlans_26 : decode cX3_pinnedPlans 26 = .ok (.iload_n 2, 1) := by decide +kernel
theorem dX3_pinnedPlans_27 : decode cX3_pinnedPlans 27 = .ok (.aaload, 1) := by decide +kernel
theorem dX3_pinnedPlans_28 : decode cX3_pinnedPlans 28 = .ok (.getfield 154, 3) := by decide +kernel
theorem dX3_pinnedPlans_31 : decode cX3_pinnedPlans 31 = .ok (.ifCond .eq 6, 3) := by decide +kernel
theorem dX3_pinnedPlans_34 : decode cX3_pinnedPlans 34 = .ok (.iinc 1 1, 3) := by decide +kernel
theorem dX3_pinnedPlans_37 : decode cX3_pinnedPlans 37 = .ok (.iinc 2 1, 3) := by decide +kernel
theorem dX3_pinnedPlans_40 : decode cX3_pinnedPlans 40 = .ok (.goto (-36), 3) := by decide +kernel
theorem dX3_pinnedPlans_43 : decode cX3_pinnedPlans 43 = .ok (.iload_n 1, 1) := by decide +kernel
theorem dX3_pinnedPlans_44 : decode cX3_pinnedPlans 44 = .ok (.ireturn, 1) := by decide +kernel
theorem dX3_stalePlans_0 : decode cX3_stalePlans 0 = .ok (.iconst 0, 1) := by decide +kernel
theorem dX3_stalePlans_1 : decode cX3_stalePlans 1 = .ok (.istore_n 1, 1) := by decide +kernel
theorem dX3_stalePlans_2 : decode cX3_stalePlans 2 = .ok (.iconst 0, 1) := by decide +kernel
theorem dX3_stalePlans_3 : decode cX3_stalePlans 3 = .ok (.istore_n 2, 1) := by decide +kernel
theorem dX3_stalePlans_4 : decode cX3_stalePlans 4 = .ok (.iload_n 2, 1) := by decide +kernel
theorem dX3_stalePlans_5 : decode cX3_stalePlans 5 = .ok (.bipush 12, 2) := by decide +kernel
theorem dX3_stalePlans_7 : decode cX3_stalePlans 7 = .ok (.if_icmp .ge 32, 3) := by decide +kernel
theorem dX3_stalePlans_10 : decode cX3_stalePlans 10 = .ok (.aload_n 0, 1) := by decide +kernel
theorem dX3_stalePlans_11 : decode cX3_stalePlans 11 = .ok (.getfield 19, 3) := by decide +kernel
theorem dX3_stalePlans_14 : decode cX3_stalePlans 14 = .ok (.iload_n 2, 1) := by decide +kernel
theorem dX3_stalePlans_15 : decode cX3_stalePlans 15 = .ok (.aaload, 1) := by decide +kernel
theorem dX3_stalePlans_16 : decode cX3_stalePlans 16 = .ok (.getfield 106, 3) := by decide +kernel
theorem dX3_stalePlans_19 : decode cX3_stalePlans 19 = .ok (.ifCond .eq 14, 3) := by decide +kernel
theorem dX3_stalePlans_22 : decode cX3_stalePlans 22 = .ok (.aload_n 0, 1) := by decide +kernel
theorem dX3_stalePlans_23 : decode cX3_stalePlans 23 = .ok (.iload_n 2, 1) := by decide +kernel
theorem dX3_stalePlans_24 : decode cX3_stalePlans 24 = .ok (.invokevirtual 176, 3) := by decide +kernel
theorem dX3_stalePlans_27 : decode cX3_stalePlans 27 = .ok (.ifCond .eq 6, 3) := by decide +kernel
theorem dX3_stalePlans_30 : decode cX3_stalePlans 30 = .ok (.iinc 1 1, 3) := by decide +kernel
theorem dX3_stalePlans_33 : decode cX3_stalePlans 33 = .ok (.iinc 2 1, 3) := by decide +kernel
theorem dX3_stalePlans_36 : decode cX3_stalePlans 36 = .ok (.goto (-32), 3) := by decide +kernel
theorem dX3_stalePlans_39 : decode cX3_stalePlans 39 = .ok (.iload_n 1, 1) := by decide +kernel
theorem dX3_stalePlans_40 : decode cX3_stalePlans 40 = .ok (.ireturn, 1) := by decide +kernel
theorem dX4_init_0 : decode cX4_init 0 = .ok (.aload_n 0, 1) := by decide +kernel
theorem dX4_init_1 : decode cX4_init 1 = .ok (.invokespecial 1, 3) := by decide +kernel
theorem dX4_init_4 : decode cX4_init 4 = .ok (.aload_n 0, 1) := by decide +kernel
theorem dX4_init_5 : decode cX4_init 5 = .ok (.bipush 100, 2) := by decide +kernel
theorem dX4_init_7 : decode cX4_init 7 = .ok (.putfield 7, 3) := by decide +kernel
theorem dX4_init_10 : decode cX4_init 10 = .ok (.aload_n 0, 1) := by decide +kernel
theorem dX4_init_11 : decode cX4_init 11 = .ok (.bipush 10, 2) := by decide +kernel
theorem dX4_init_13 : decode cX4_init 13 = .ok (.putfield 13, 3) := by decide +kernel
theorem dX4_init_16 : decode cX4_init 16 = .ok (.return_, 1) := by decide +kernel
theorem dX4_copyFrom_0 : decode cX4_copyFrom 0 = .ok (.aload_n 0, 1) := by decide +kernel
theorem dX4_copyFrom_1 : decode cX4_copyFrom 1 = .ok (.aload_n 1, 1) := by decide +kernel
theorem dX4_copyFrom_2 : decode cX4_copyFrom 2 = .ok (.getfield 7, 3) := by decide +kernel
theorem dX4_copyFrom_5 : decode cX4_copyFrom 5 = .ok (.putfield 7, 3) := by decide +kernel
theorem dX4_copyFrom_8 : decode cX4_copyFrom 8 = .ok (.aload_n 0, 1) := by decide +kernel
theorem dX4_copyFrom_9 : decode cX4_copyFrom 9 = .ok (.aload_n 1, 1) := by decide +kernel
theorem dX4_copyFrom_10 : decode cX4_copyFrom 10 = .ok (.getfield 13, 3) := by decide +kernel
theorem dX4_copyFrom_13 : decode cX4_copyFrom 13 = .ok (.putfield 13, 3) := by decide +kernel
theorem dX4_copyFrom_16 : decode cX4_copyFrom 16 = .ok (.aload_n 0, 1) := by decide +kernel
theorem dX4_copyFrom_17 : decode cX4_copyFrom 17 = .ok (.aload_n 1, 1) := by decide +kernel
theorem dX4_copyFrom_18 : decode cX4_copyFrom 18 = .ok (.getfield 16, 3) := by decide +kernel
theorem dX4_copyFrom_21 : decode cX4_copyFrom 21 = .ok (.putfield 16, 3) := by decide +kernel
theorem dX4_copyFrom_24 : decode cX4_copyFrom 24 = .ok (.aload_n 0, 1) := by decide +kernel
theorem dX4_copyFrom_25 : decode cX4_copyFrom 25 = .ok (.aload_n 1, 1) := by decide +kernel
theorem dX4_copyFrom_26 : decode cX4_copyFrom 26 = .ok (.getfield 19, 3) := by decide +kernel
theorem dX4_copyFrom_29 : decode cX4_copyFrom 29 = .ok (.putfield 19, 3) := by decide +kernel
theorem dX4_copyFrom_32 : decode cX4_copyFrom 32 = .ok (.return_, 1) := by decide +kernel
theorem dX5_init_0 : decode cX5_init 0 = .ok (.aload_n 0, 1) := by decide +kernel
theorem dX5_init_1 : decode cX5_init 1 = .ok (.invokespecial 1, 3) := by decide +kernel
theorem dX5_init_4 : decode cX5_init 4 = .ok (.aload_n 0, 1) := by decide +kernel
theorem dX5_init_5 : decode cX5_init 5 = .ok (.new 7, 3) := by decide +kernel
theorem dX5_init_8 : decode cX5_init 8 = .ok (.dup, 1) := by decide +kernel
theorem dX5_init_9 : decode cX5_init 9 = .ok (.invokespecial 9, 3) := by decide +kernel
theorem dX5_init_12 : decode cX5_init 12 = .ok (.putfield 10, 3) := by decide +kernel
theorem dX5_init_15 : decode cX5_init 15 = .ok (.aload_n 0, 1) := by decide +kernel
theorem dX5_init_16 : decode cX5_init 16 = .ok (.new 7, 3) := by decide +kernel
theorem dX5_init_19 : decode cX5_init 19 = .ok (.dup, 1) := by decide +kernel
theorem dX5_init_20 : decode cX5_init 20 = .ok (.invokespecial 9, 3) := by decide +kernel
theorem dX5_init_23 : decode cX5_init 23 = .ok (.putfield 16, 3) := by decide +kernel
theorem dX5_init_26 : decode cX5_init 26 = .ok (.aload_n 0, 1) := by decide +kernel
theorem dX5_init_27 : decode cX5_init 27 = .ok (.new 19, 3) := by decide +kernel
theorem dX5_init_30 : decode cX5_init 30 = .ok (.dup, 1) := by decide +kernel
theorem dX5_init_31 : decode cX5_init 31 = .ok (.invokespecial 21, 3) := by decide +kernel
theorem dX5_init_34 : decode cX5_init 34 = .ok (.putfield 22, 3) := by decide +kernel
theorem dX5_init_37 : decode cX5_init 37 = .ok (.aload_n 0, 1) := by decide +kernel
theorem dX5_init_38 : decode cX5_init 38 = .ok (.new 26, 3) := by decide +kernel
theorem dX5_init_41 : decode cX5_init 41 = .ok (.dup, 1) := by decide +kernel
theorem dX5_init_42 : decode cX5_init 42 = .ok (.invokespecial 28, 3) := by decide +kernel
theorem dX5_init_45 : decode cX5_init 45 = .ok (.putfield 29, 3) := by decide +kernel
theorem dX5_init_48 : decode cX5_init 48 = .ok (.aload_n 0, 1) := by decide +kernel
theorem dX5_init_49 : decode cX5_init 49 = .ok (.iconst 0, 1) := by decide +kernel
theorem dX5_init_50 : decode cX5_init 50 = .ok (.putfield 33, 3) := by decide +kernel
theorem dX5_init_53 : decode cX5_init 53 = .ok (.return_, 1) := by decide +kernel
theorem dX5_table_0 : decode cX5_table 0 = .ok (.iload_n 1, 1) := by decide +kernel
theorem dX5_table_1 : decode cX5_table 1 = .ok (.invokestatic 37, 3) := by decide +kernel
theorem dX5_table_4 : decode cX5_table 4 = .ok (.ifCond .ne 5, 3) := by decide +kernel
theorem dX5_table_7 : decode cX5_table 7 = .ok (.iconst (-1), 1) := by decide +kernel
theorem dX5_table_8 : decode cX5_table 8 = .ok (.ireturn, 1) := by decide +kernel
theorem dX5_table_9 : decode cX5_table 9 = .ok (.iload_n 3, 1) := by decide +kernel
theorem dX5_table_10 : decode cX5_table 10 = .ok (.iload_n 2, 1) := by decide +kernel
theorem dX5_table_11 : decode cX5_table 11 = .ok (.ifCond .eq 7, 3) := by decide +kernel
theorem dX5_table_14 : decode cX5_table 14 = .ok (.iconst 1, 1) := by decide +kernel
theorem dX5_table_15 : decode cX5_table 15 = .ok (.goto 4, 3) := by decide +kernel
theorem dX5_table_18 : decode cX5_table 18 = .ok (.iconst 0, 1) := by decide +kernel
theorem dX5_table_19 : decode cX5_table 19 = .ok (.if_icmp .lt 10, 3) := by decide +kernel
theorem dX5_table_22 : decode cX5_table 22 = .ok (.iload_n 3, 1) := by decide +kernel
theorem dX5_table_23 : decode cX5_table 23 = .ok (.sipush 9999, 3) := by decide +kernel
theorem dX5_table_26 : decode cX5_table 26 = .ok (.if_icmp .le 6, 3) := by decide +kernel
theorem dX5_table_29 : decode cX5_table 29 = .ok (.bipush (-2), 2) := by decide +kernel
theorem dX5_table_31 : decode cX5_table 31 = .ok (.ireturn, 1) := by decide +kernel
theorem dX5_table_32 : decode cX5_table 32 = .ok (.iload_n 2, 1) := by decide +kernel
theorem dX5_table_33 : decode cX5_table 33 = .ok (.ifCond .eq 18, 3) := by decide +kernel
theorem dX5_table_36 : decode cX5_table 36 = .ok (.aload_n 0, 1) := by decide +kernel
theorem dX5_table_37 : decode cX5_table 37 = .ok (.getfield 10, 3) := by decide +kernel
theorem dX5_table_40 : decode cX5_table 40 = .ok (.getfield 41, 3) := by decide +kernel
theorem dX5_table_43 : decode cX5_table 43 = .ok (.iload_n 1, 1) := by decide +kernel
theorem dX5_table_44 : decode cX5_table 44 = .ok (.aaload, 1) := by decide +kernel
theorem dX5_table_45 : decode cX5_table 45 = .ok (.getfield 45, 3) := by decide +kernel
theorem dX5_table_48 : decode cX5_table 48 = .ok (.goto 15, 3) := by decide +kernel
theorem dX5_table_51 : decode cX5_table 51 = .ok (.aload_n 0, 1) := by decide +kernel
theorem dX5_table_52 : decode cX5_table 52 = .ok (.getfield 10, 3) := by decide +kernel
theorem dX5_table_55 : decode cX5_table 55 = .ok (.getfield 41, 3) := by decide +kernel
theorem dX5_table_58 : decode cX5_table 58 = .ok (.iload_n 1, 1) := by decide +kernel
theorem dX5_table_59 : decode cX5_table 59 = .ok (.aaload, 1) := by decide +kernel
theorem dX5_table_60 : decode cX5_table 60 = .ok (.getfield 51, 3) := by decide +kernel
theorem dX5_table_63 : decode cX5_table 63 = .ok (.istore 4, 2) := by decide +kernel
theorem dX5_table_65 : decode cX5_table 65 = .ok (.iload 4, 2) := by decide +kernel
theorem dX5_table_67 : decode cX5_table 67 = .ok (.iload_n 3, 1) := by decide +kernel
theorem dX5_table_68 : decode cX5_table 68 = .ok (.if_icmp .ne 6, 3) := by decide +kernel
theorem dX5_table_71 : decode cX5_table 71 = .ok (.bipush (-4), 2) := by decide +kernel
theorem dX5_table_73 : decode cX5_table 73 = .ok (.ireturn, 1) := by decide +kernel
theorem dX5_table_74 : decode cX5_table 74 = .ok (.aload_n 0, 1) := by decide +kernel
theorem dX5_table_75 : decode cX5_table 75 = .ok (.getfield 22, 3) := by decide +kernel
theorem dX5_table_78 : decode cX5_table 78 = .ok (.aload_n 0, 1) := by decide +kernel
theorem dX5_table_79 : decode cX5_table 79 = .ok (.getfield 10, 3) := by decide +kernel
theorem dX5_table_82 : decode cX5_table 82 = .ok (.invokevirtual 54, 3) := by decide +kernel
theorem dX5_table_85 : decode cX5_table 85 = .ok (.aload_n 0, 1) := by decide +kernel
theorem dX5_table_86 : decode cX5_table 86 = .ok (.getfield 10, 3) := by decide +kernel
theorem dX5_table_89 : decode cX5_table 89 = .ok (.iload_n 1, 1) := by decide +kernel
theorem dX5_table_90 : decode cX5_table 90 = .ok (.iload_n 2, 1) := by decide +kernel
theorem dX5_table_91 : decode cX5_table 91 = .ok (.iload_n 3, 1) := by decide +kernel
theorem dX5_table_92 : decode cX5_table 92 = .ok (.invokevirtual 58, 3) := by decide +kernel
theorem dX5_table_95 : decode cX5_table 95 = .ok (.iload 4, 2) := by decide +kernel
theorem dX5_table_97 : decode cX5_table 97 = .ok (.ireturn, 1) := by decide +kernel
theorem dX5_ask_0 : decode cX5_ask 0 = .ok (.iload_n 1, 1) := by decide +kernel
theorem dX5_ask_1 : decode cX5_ask 1 = .ok (.invokestatic 62, 3) := by decide +kernel
theorem dX5_ask_4 : decode cX5_ask 4 = .ok (.ifCond .ne 5, 3) := by decide +kernel
theorem dX5_ask_7 : decode cX5_ask 7 = .ok (.iconst (-1), 1) := by decide +kernel
theorem dX5_ask_8 : decode cX5_ask 8 = .ok (.ireturn, 1) := by decide +kernel
theorem dX5_ask_9 : decode cX5_ask 9 = .ok (.iload_n 1, 1) := by decide +kernel
theorem dX5_ask_10 : decode cX5_ask 10 = .ok (.iconst 3, 1) := by decide +kernel
theorem dX5_ask_11 : decode cX5_ask 11 = .ok (.irem, 1) := by decide +kernel
theorem dX5_ask_12 : decode cX5_ask 12 = .ok (.iload_n 2, 1) := by decide +kernel
theorem dX5_ask_13 : decode cX5_ask 13 = .ok (.invokestatic 65, 3) := by decide +kernel
theorem dX5_ask_16 : decode cX5_ask 16 = .ok (.ifCond .ne 6, 3) := by decide +kernel
theorem dX5_ask_19 : decode cX5_ask 19 = .ok (.bipush (-2), 2) := by decide +kernel
theorem dX5_ask_21 : decode cX5_ask 21 = .ok (.ireturn, 1) := by decide +kernel
theorem dX5_ask_22 : decode cX5_ask 22 = .ok (.aload_n 0, 1) := by decide +kernel
theorem dX5_ask_23 : decode cX5_ask 23 = .ok (.getfield 22, 3) := by decide +kernel
theorem dX5_ask_26 : decode cX5_ask 26 = .ok (.aload_n 0, 1) := by decide +kernel
theorem dX5_ask_27 : decode cX5_ask 27 = .ok (.getfield 10, 3) := by decide +kernel
theorem dX5_ask_30 : decode cX5_ask 30 = .ok (.invokevirtual 54, 3) := by decide +kernel
theorem dX5_ask_33 : decode cX5_ask 33 = .ok (.aload_n 0, 1) := by decide +kernel
theorem dX5_ask_34 : decode cX5_ask 34 = .ok (.getfield 10, 3) := by decide +kernel
theorem dX5_ask_37 : decode cX5_ask 37 = .ok (.iload_n 1, 1) := by decide +kernel
theorem dX5_ask_38 : decode cX5_ask 38 = .ok (.iload_n 2, 1) := by decide +kernel
theorem dX5_ask_39 : decode cX5_ask 39 = .ok (.invokevirtual 69, 3) := by decide +kernel
theorem dX5_ask_42 : decode cX5_ask 42 = .ok (.ireturn, 1) := by decide +kernel
theorem dX5_askAll_0 : decode cX5_askAll 0 = .ok (.aload_n 0, 1) := by decide +kernel
theorem dX5_askAll_1 : decode cX5_askAll 1 = .ok (.getfield 29, 3) := by decide +kernel
theorem dX5_askAll_4 : decode cX5_askAll 4 = .ok (.invokevirtual 73, 3) := by decide +kernel
theorem dX5_askAll_7 : decode cX5_askAll 7 = .ok (.istore_n 1, 1) := by decide +kernel
theorem dX5_askAll_8 : decode cX5_askAll 8 = .ok (.iload_n 1, 1) := by decide +kernel
theorem dX5_askAll_9 : decode cX5_askAll 9 = .ok (.bipush (-4), 2) := by decide +kernel
theorem dX5_askAll_11 : decode cX5_askAll 11 = .ok (.if_icmp .eq 8, 3) := by decide +kernel
theorem dX5_askAll_14 : decode cX5_askAll 14 = .ok (.bipush (-100), 2) := by decide +kernel
theorem dX5_askAll_16 : decode cX5_askAll 16 = .ok (.iload_n 1, 1) := by decide +kernel
theorem dX5_askAll_17 : decode cX5_askAll 17 = .ok (.isub, 1) := by decide +kernel
theorem dX5_askAll_18 : decode cX5_askAll 18 = .ok (.ireturn, 1) := by decide +kernel
theorem dX5_askAll_19 : decode cX5_askAll 19 = .ok (.aload_n 0, 1) := by decide +kernel
theorem dX5_askAll_20 : decode cX5_askAll 20 = .ok (.getfield 22, 3) := by decide +kernel
theorem dX5_askAll_23 : decode cX5_askAll 23 = .ok (.aload_n 0, 1) := by decide +kernel
theorem dX5_askAll_24 : decode cX5_askAll 24 = .ok (.getfield 10, 3) := by decide +kernel
theorem dX5_askAll_27 : decode cX5_askAll 27 = .ok (.invokevirtual 54, 3) := by decide +kernel
theorem dX5_askAll_30 : decode cX5_askAll 30 = .ok (.iconst 0, 1) := by decide +kernel
theorem dX5_askAll_31 : decode cX5_askAll 31 = .ok (.istore_n 2, 1) := by decide +kernel
theorem dX5_askAll_32 : decode cX5_askAll 32 = .ok (.iconst 0, 1) := by decide +kernel
theorem dX5_askAll_33 : decode cX5_askAll 33 = .ok (.istore_n 3, 1) := by decide +kernel
theorem dX5_askAll_34 : decode cX5_askAll 34 = .ok (.iload_n 3, 1) := by decide +kernel
theorem dX5_askAll_35 : decode cX5_askAll 35 = .ok (.aload_n 0, 1) := by decide +kernel
theorem dX5_askAll_36 : decode cX5_askAll 36 = .ok (.getfield 29, 3) := by decide +kernel
theorem dX5_askAll_39 : decode cX5_askAll 39 = .ok (.getfield 77, 3) := by decide +kernel
theorem dX5_askAll_42 : decode cX5_askAll 42 = .ok (.if_icmp .ge 104, 3) := by decide +kernel
theorem dX5_askAll_45 : decode cX5_askAll 45 = .ok (.aload_n 0, 1) := by decide +kernel
theorem dX5_askAll_46 : decode cX5_askAll 46 = .ok (.getfield 29, 3) := by decide +kernel
theorem dX5_askAll_49 : decode cX5_askAll 49 = .ok (.getfield 80, 3) := by decide +kernel
theorem dX5_askAll_52 : decode cX5_askAll 52 = .ok (.iload_n 3, 1) := by decide +kernel
theorem dX5_askAll_53 : decode cX5_askAll 53 = .ok (.iaload, 1) := by decide +kernel
theorem dX5_askAll_54 : decode cX5_askAll 54 = .ok (.istore 4, 2) := by decide +kernel
theorem dX5_askAll_56 : decode cX5_askAll 56 = .ok (.iload 4, 2) := by decide +kernel
theorem dX5_askAll_58 : decode cX5_askAll 58 = .ok (.iconst 3, 1) := by decide +kernel
theorem dX5_askAll_59 : decode cX5_askAll 59 = .ok (.if_icmp .eq 9, 3) := by decide +kernel
theorem dX5_askAll_62 : decode cX5_askAll 62 = .ok (.iload 4, 2) := by decide +kernel
theorem dX5_askAll_64 : decode cX5_askAll 64 = .ok (.iconst 4, 1) := by decide +kernel
theorem dX5_askAll_65 : decode cX5_askAll 65 = .ok (.if_icmp .ne 42, 3) := by decide +kernel
theorem dX5_askAll_68 : decode cX5_askAll 68 = .ok (.aload_n 0, 1) := by decide +kernel
theorem dX5_askAll_69 : decode cX5_askAll 69 = .ok (.getfield 10, 3) := by decide +kernel
theorem dX5_askAll_72 : decode cX5_askAll 72 = .ok (.aload_n 0, 1) := by decide +kernel
theorem dX5_askAll_73 : decode cX5_askAll 73 = .ok (.getfield 29, 3) := by decide +kernel
theorem dX5_askAll_76 : decode cX5_askAll 76 = .ok (.getfield 84, 3) := by decide +kernel
theorem dX5_askAll_79 : decode cX5_askAll 79 = .ok (.iload_n 3, 1) := by decide +kernel
theorem dX5_askAll_80 : decode cX5_askAll 80 = .ok (.iaload, 1) := by decide +kernel
theorem dX5_askAll_81 : decode cX5_askAll 81 = .ok (.iload 4, 2) := by decide +kernel
theorem dX5_askAll_83 : decode cX5_askAll 83 = .ok (.iconst 4, 1) := by decide +kernel
theorem dX5_askAll_84 : decode cX5_askAll 84 = .ok (.if_icmp .ne 7, 3) := by decide +kernel
theorem dX5_askAll_87 : decode cX5_askAll 87 = .ok (.iconst 1, 1) := by decide +kernel
theorem dX5_askAll_88 : decode cX5_askAll 88 = .ok (.goto 4, 3) := by decide +kernel
theorem dX5_askAll_91 : decode cX5_askAll 91 = .ok (.iconst 0, 1) := by decide +kernel
theorem dX5_askAll_92 : decode cX5_askAll 92 = .ok (.aload_n 0, 1) := by decide +kernel
theorem dX5_askAll_93 : decode cX5_askAll 93 = .ok (.getfield 29, 3) := by decide +kernel
theorem dX5_askAll_96 : decode cX5_askAll 96 = .ok (.getfield 86, 3) := by decide +kernel
theorem dX5_askAll_99 : decode cX5_askAll 99 = .ok (.iload_n 3, 1) := by decide +kernel
theorem dX5_askAll_100 : decode cX5_askAll 100 = .ok (.iaload, 1) := by decide +kernel
theorem dX5_askAll_101 : decode cX5_askAll 101 = .ok (.invokevirtual 58, 3) := by decide +kernel
theorem dX5_askAll_104 : decode cX5_askAll 104 = .ok (.goto 36, 3) := by decide +kernel
theorem dX5_askAll_107 : decode cX5_askAll 107 = .ok (.iload_n 2, 1) := by decide +kernel
theorem dX5_askAll_108 : decode cX5_askAll 108 = .ok (.aload_n 0, 1) := by decide +kernel
theorem dX5_askAll_109 : decode cX5_askAll 109 = .ok (.getfield 10, 3) := by decide +kernel
theorem dX5_askAll_112 : decode cX5_askAll 112 = .ok (.iconst 3, 1) := by decide +kernel
theorem dX5_askAll_113 : decode cX5_askAll 113 = .ok (.aload_n 0, 1) := by decide +kernel
theorem dX5_askAll_114 : decode cX5_askAll 114 = .ok (.getfield 29, 3) := by decide +kernel
theorem dX5_askAll_117 : decode cX5_askAll 117 = .ok (.getfield 84, 3) := by decide +kernel
theorem dX5_askAll_120 : decode cX5_askAll 120 = .ok (.iload_n 3, 1) := by decide +kernel
theorem dX5_askAll_121 : decode cX5_askAll 121 = .ok (.iaload, 1) := by decide +kernel
theorem dX5_askAll_122 : decode cX5_askAll 122 = .ok (.imul, 1) := by decide +kernel
theorem dX5_askAll_123 : decode cX5_askAll 123 = .ok (.iload 4, 2) := by decide +kernel
theorem dX5_askAll_125 : decode cX5_askAll 125 = .ok (.iadd, 1) := by decide +kernel
theorem dX5_askAll_126 : decode cX5_askAll 126 = .ok (.aload_n 0, 1) := by decide +kernel
theorem dX5_askAll_127 : decode cX5_askAll 127 = .ok (.getfield 29, 3) := by decide +kernel
theorem dX5_askAll_130 : decode cX5_askAll 130 = .ok (.getfield 86, 3) := by decide +kernel
theorem dX5_askAll_133 : decode cX5_askAll 133 = .ok (.iload_n 3, 1) := by decide +kernel
theorem dX5_askAll_134 : decode cX5_askAll 134 = .ok (.iaload, 1) := by decide +kernel
theorem dX5_askAll_135 : decode cX5_askAll 135 = .ok (.invokevirtual 69, 3) := by decide +kernel
theorem dX5_askAll_138 : decode cX5_askAll 138 = .ok (.iadd, 1) := by decide +kernel
theorem dX5_askAll_139 : decode cX5_askAll 139 = .ok (.istore_n 2, 1) := by decide +kernel
theorem dX5_askAll_140 : decode cX5_askAll 140 = .ok (.iinc 3 1, 3) := by decide +kernel
theorem dX5_askAll_143 : decode cX5_askAll 143 = .ok (.goto (-109), 3) := by decide +kernel
theorem dX5_askAll_146 : decode cX5_askAll 146 = .ok (.iload_n 2, 1) := by decide +kernel
theorem dX5_askAll_147 : decode cX5_askAll 147 = .ok (.ireturn, 1) := by decide +kernel
theorem dX5_pin_0 : decode cX5_pin 0 = .ok (.aload_n 0, 1) := by decide +kernel
theorem dX5_pin_1 : decode cX5_pin 1 = .ok (.iload_n 1, 1) := by decide +kernel
theorem dX5_pin_2 : decode cX5_pin 2 = .ok (.invokevirtual 89, 3) := by decide +kernel
theorem dX5_pin_5 : decode cX5_pin 5 = .ok (.ifCond .ne 5, 3) := by decide +kernel
theorem dX5_pin_8 : decode cX5_pin 8 = .ok (.iconst (-1), 1) := by decide +kernel
theorem dX5_pin_9 : decode cX5_pin 9 = .ok (.ireturn, 1) := by decide +kernel
theorem dX5_pin_10 : decode cX5_pin 10 = .ok (.aload_n 0, 1) := by decide +kernel
theorem dX5_pin_11 : decode cX5_pin 11 = .ok (.getfield 10, 3) := by decide +kernel
theorem dX5_pin_14 : decode cX5_pin 14 = .ok (.getfield 92, 3) := by decide +kernel
theorem dX5_pin_17 : decode cX5_pin 17 = .ok (.iload_n 1, 1) := by decide +kernel
theorem dX5_pin_18 : decode cX5_pin 18 = .ok (.aaload, 1) := by decide +kernel
theorem dX5_pin_19 : decode cX5_pin 19 = .ok (.getfield 96, 3) := by decide +kernel
theorem dX5_pin_22 : decode cX5_pin 22 = .ok (.iload_n 2, 1) := by decide +kernel
theorem dX5_pin_23 : decode cX5_pin 23 = .ok (.if_icmp .ne 6, 3) := by decide +kernel
theorem dX5_pin_26 : decode cX5_pin 26 = .ok (.bipush (-4), 2) := by decide +kernel
theorem dX5_pin_28 : decode cX5_pin 28 = .ok (.ireturn, 1) := by decide +kernel
theorem dX5_pin_29 : decode cX5_pin 29 = .ok (.aload_n 0, 1) := by decide +kernel
theorem dX5_pin_30 : decode cX5_pin 30 = .ok (.getfield 22, 3) := by decide +kernel
theorem dX5_pin_33 : decode cX5_pin 33 = .ok (.aload_n 0, 1) := by decide +kernel
theorem dX5_pin_34 : decode cX5_pin 34 = .ok (.getfield 10, 3) := by decide +kernel
theorem dX5_pin_37 : decode cX5_pin 37 = .ok (.invokevirtual 54, 3) := by decide +kernel
theorem dX5_pin_40 : decode cX5_pin 40 = .ok (.aload_n 0, 1) := by decide +kernel
theorem dX5_pin_41 : decode cX5_pin 41 = .ok (.getfield 10, 3) := by decide +kernel
theorem dX5_pin_44 : decode cX5_pin 44 = .ok (.getfield 92, 3) := by decide +kernel
theorem dX5_pin_47 : decode cX5_pin 47 = .ok (.iload_n 1, 1) := by decide +kernel
theorem dX5_pin_48 : decode cX5_pin 48 = .ok (.aaload, 1) := by decide +kernel
theorem dX5_pin_49 : decode cX5_pin 49 = .ok (.iload_n 2, 1) := by decide +kernel
theorem dX5_pin_50 : decode cX5_pin 50 = .ok (.putfield 96, 3) := by decide +kernel
theorem dX5_pin_53 : decode cX5_pin 53 = .ok (.aload_n 0, 1) := by decide +kernel
theorem dX5_pin_54 : decode cX5_pin 54 = .ok (.getfield 10, 3) := by decide +kernel
theorem dX5_pin_57 : decode cX5_pin 57 = .ok (.invokevirtual 101, 3) := by decide +kernel
theorem dX5_pin_60 : decode cX5_pin 60 = .ok (.ireturn, 1) := by decide +kernel
theorem dX5_throwOut_0 : decode cX5_throwOut 0 = .ok (.aload_n 0, 1) := by decide +kernel
theorem dX5_throwOut_1 : decode cX5_throwOut 1 = .ok (.iload_n 1, 1) := by decide +kernel
theorem dX5_throwOut_2 : decode cX5_throwOut 2 = .ok (.invokevirtual 89, 3) := by decide +kernel
theorem dX5_throwOut_5 : decode cX5_throwOut 5 = .ok (.ifCond .ne 5, 3) := by decide +kernel
theorem dX5_throwOut_8 : decode cX5_throwOut 8 = .ok (.iconst (-1), 1) := by decide +kernel
theorem dX5_throwOut_9 : decode cX5_throwOut 9 = .ok (.ireturn, 1) := by decide +kernel
theorem dX5_throwOut_10 : decode cX5_throwOut 10 = .ok (.aload_n 0, 1) := by decide +kernel
theorem dX5_throwOut_11 : decode cX5_throwOut 11 = .ok (.getfield 22, 3) := by decide +kernel
theorem dX5_throwOut_14 : decode cX5_throwOut 14 = .ok (.aload_n 0, 1) := by decide +kernel
theorem dX5_throwOut_15 : decode cX5_throwOut 15 = .ok (.getfield 10, 3) := by decide +kernel
theorem dX5_throwOut_18 : decode cX5_throwOut 18 = .ok (.invokevirtual 54, 3) := by decide +kernel
theorem dX5_throwOut_21 : decode cX5_throwOut 21 = .ok (.aload_n 0, 1) := by decide +kernel
theorem dX5_throwOut_22 : decode cX5_throwOut 22 = .ok (.getfield 10, 3) := by decide +kernel
theorem dX5_throwOut_25 : decode cX5_throwOut 25 = .ok (.getfield 92, 3) := by decide +kernel
theorem dX5_throwOut_28 : decode cX5_throwOut 28 = .ok (.iload_n 1, 1) := by decide +kernel
theorem dX5_throwOut_29 : decode cX5_throwOut 29 = .ok (.aaload, 1) := by decide +kernel
theorem dX5_throwOut_30 : decode cX5_throwOut 30 = .ok (.iconst 0, 1) := by decide +kernel
theorem dX5_throwOut_31 : decode cX5_throwOut 31 = .ok (.putfield 104, 3) := by decide +kernel
theorem dX5_throwOut_34 : decode cX5_throwOut 34 = .ok (.aload_n 0, 1) := by decide +kernel
theorem dX5_throwOut_35 : decode cX5_throwOut 35 = .ok (.getfield 10, 3) := by decide +kernel
theorem dX5_throwOut_38 : decode cX5_throwOut 38 = .ok (.invokevirtual 107, 3) := by decide +kernel
theorem dX5_throwOut_41 : decode cX5_throwOut 41 = .ok (.ireturn, 1) := by decide +kernel
theorem dX5_make_0 : decode cX5_make 0 = .ok (.iload_n 1, 1) := by decide +kernel
theorem dX5_make_1 : decode cX5_make 1 = .ok (.invokestatic 62, 3) := by decide +kernel
theorem dX5_make_4 : decode cX5_make 4 = .ok (.ifCond .ne 5, 3) := by decide +kernel
theorem dX5_make_7 : decode cX5_make 7 = .ok (.iconst (-1), 1) := by decide +kernel
theorem dX5_make_8 : decode cX5_make 8 = .ok (.ireturn, 1) := by decide +kernel
theorem dX5_make_9 : decode cX5_make 9 = .ok (.iload_n 2, 1) := by decide +kernel
theorem dX5_make_10 : decode cX5_make 10 = .ok (.invokestatic 110, 3) := by decide +kernel
theorem dX5_make_13 : decode cX5_make 13 = .ok (.ifCond .eq 13, 3) := by decide +kernel
theorem dX5_make_16 : decode cX5_make 16 = .ok (.iload_n 1, 1) := by decide +kernel
theorem dX5_make_17 : decode cX5_make 17 = .ok (.iconst 3, 1) := by decide +kernel
theorem dX5_make_18 : decode cX5_make 18 = .ok (.irem, 1) := by decide +kernel
theorem dX5_make_19 : decode cX5_make 19 = .ok (.iload_n 3, 1) := by decide +kernel
theorem dX5_make_20 : decode cX5_make 20 = .ok (.invokestatic 65, 3) := by decide +kernel
theorem dX5_make_23 : decode cX5_make 23 = .ok (.ifCond .ne 6, 3) := by decide +kernel
theorem dX5_make_26 : decode cX5_make 26 = .ok (.bipush (-2), 2) := by decide +kernel
theorem dX5_make_28 : decode cX5_make 28 = .ok (.ireturn, 1) := by decide +kernel
theorem dX5_make_29 : decode cX5_make 29 = .ok (.iload 4, 2) := by decide +kernel
theorem dX5_make_31 : decode cX5_make 31 = .ok (.ifCond .lt 25, 3) := by decide +kernel
theorem dX5_make_34 : decode cX5_make 34 = .ok (.iload 4, 2) := by decide +kernel
theorem dX5_make_36 : decode cX5_make 36 = .ok (.sipush 9999, 3) := by decide +kernel
theorem dX5_make_39 : decode cX5_make 39 = .ok (.if_icmp .gt 17, 3) := by decide +kernel
theorem dX5_make_42 : decode cX5_make 42 = .ok (.iload 5, 2) := by decide +kernel
theorem dX5_make_44 : decode cX5_make 44 = .ok (.iload 4, 2) := by decide +kernel
theorem dX5_make_46 : decode cX5_make 46 = .ok (.if_icmp .lt 10, 3) := by decide +kernel
theorem dX5_make_49 : decode cX5_make 49 = .ok (.iload 5, 2) := by decide +kernel
theorem dX5_make_51 : decode cX5_make 51 = .ok (.ldc 113, 2) := by decide +kernel
theorem dX5_make_53 : decode cX5_make 53 = .ok (.if_icmp .le 6, 3) := by decide +kernel
theorem dX5_make_56 : decode cX5_make 56 = .ok (.bipush (-2), 2) := by decide +kernel
theorem dX5_make_58 : decode cX5_make 58 = .ok (.ireturn, 1) := by decide +kernel
theorem dX5_make_59 : decode cX5_make 59 = .ok (.aload_n 0, 1) := by decide +kernel
theorem dX5_make_60 : decode cX5_make 60 = .ok (.getfield 10, 3) := by decide +kernel
theorem dX5_make_63 : decode cX5_make 63 = .ok (.iload_n 1, 1) := by decide +kernel
theorem dX5_make_64 : decode cX5_make 64 = .ok (.invokevirtual 114, 3) := by decide +kernel
theorem dX5_make_67 : decode cX5_make 67 = .ok (.ifCond .ne 6, 3) := by decide +kernel
theorem dX5_make_70 : decode cX5_make 70 = .ok (.bipush (-4), 2) := by decide +kernel
theorem dX5_make_72 : decode cX5_make 72 = .ok (.ireturn, 1) := by decide +kernel
theorem dX5_make_73 : decode cX5_make 73 = .ok (.aload_n 0, 1) := by decide +kernel
theorem dX5_make_74 : decode cX5_make 74 = .ok (.getfield 22, 3) := by decide +kernel
theorem dX5_make_77 : decode cX5_make 77 = .ok (.aload_n 0, 1) := by decide +kernel
theorem dX5_make_78 : decode cX5_make 78 = .ok (.getfield 10, 3) := by decide +kernel
theorem dX5_make_81 : decode cX5_make 81 = .ok (.invokevirtual 54, 3) := by decide +kernel
theorem dX5_make_84 : decode cX5_make 84 = .ok (.aload_n 0, 1) := by decide +kernel
theorem dX5_make_85 : decode cX5_make 85 = .ok (.getfield 10, 3) := by decide +kernel
theorem dX5_make_88 : decode cX5_make 88 = .ok (.iload_n 1, 1) := by decide +kernel
theorem dX5_make_89 : decode cX5_make 89 = .ok (.invokevirtual 117, 3) := by decide +kernel
theorem dX5_make_92 : decode cX5_make 92 = .ok (.aload_n 0, 1) := by decide +kernel
theorem dX5_make_93 : decode cX5_make 93 = .ok (.getfield 10, 3) := by decide +kernel
theorem dX5_make_96 : decode cX5_make 96 = .ok (.iload_n 1, 1) := by decide +kernel
theorem dX5_make_97 : decode cX5_make 97 = .ok (.iload_n 2, 1) := by decide +kernel
theorem dX5_make_98 : decode cX5_make 98 = .ok (.iload_n 3, 1) := by decide +kernel
theorem dX5_make_99 : decode cX5_make 99 = .ok (.iload 4, 2) := by decide +kernel
theorem dX5_make_101 : decode cX5_make 101 = .ok (.iload 5, 2) := by decide +kernel
theorem dX5_make_103 : decode cX5_make 103 = .ok (.invokevirtual 121, 3) := by decide +kernel
theorem dX5_make_106 : decode cX5_make 106 = .ok (.aload_n 0, 1) := by decide +kernel
theorem dX5_make_107 : decode cX5_make 107 = .ok (.getfield 10, 3) := by decide +kernel
theorem dX5_make_110 : decode cX5_make 110 = .ok (.invokevirtual 107, 3) := by decide +kernel
theorem dX5_make_113 : decode cX5_make 113 = .ok (.ireturn, 1) := by decide +kernel
theorem dX5_set_0 : decode cX5_set 0 = .ok (.iload_n 1, 1) := by decide +kernel
theorem dX5_set_1 : decode cX5_set 1 = .ok (.ifCond .lt 8, 3) := by decide +kernel
theorem dX5_set_4 : decode cX5_set 4 = .ok (.iload_n 1, 1) := by decide +kernel
theorem dX5_set_5 : decode cX5_set 5 = .ok (.iconst 5, 1) := by decide +kernel
theorem dX5_set_6 : decode cX5_set 6 = .ok (.if_icmp .lt 5, 3) := by decide +kernel
theorem dX5_set_9 : decode cX5_set 9 = .ok (.iconst (-1), 1) := by decide +kernel
theorem dX5_set_10 : decode cX5_set 10 = .ok (.ireturn, 1) := by decide +kernel
theorem dX5_set_11 : decode cX5_set 11 = .ok (.iload_n 2, 1) := by decide +kernel
theorem dX5_set_12 : decode cX5_set 12 = .ok (.getstatic 125, 3) := by decide +kernel
theorem dX5_set_15 : decode cX5_set 15 = .ok (.iload_n 1, 1) := by decide +kernel
theorem dX5_set_16 : decode cX5_set 16 = .ok (.iaload, 1) := by decide +kernel
theorem dX5_set_17 : decode cX5_set 17 = .ok (.if_icmp .lt 12, 3) := by decide +kernel
theorem dX5_set_20 : decode cX5_set 20 = .ok (.iload_n 2, 1) := by decide +kernel
theorem dX5_set_21 : decode cX5_set 21 = .ok (.getstatic 128, 3) := by decide +kernel
theorem dX5_set_24 : decode cX5_set 24 = .ok (.iload_n 1, 1) := by decide +kernel
theorem dX5_set_25 : decode cX5_set 25 = .ok (.iaload, 1) := by decide +kernel
theorem dX5_set_26 : decode cX5_set 26 = .ok (.if_icmp .le 6, 3) := by decide +kernel
theorem dX5_set_29 : decode cX5_set 29 = .ok (.bipush (-2), 2) := by decide +kernel
theorem dX5_set_31 : decode cX5_set 31 = .ok (.ireturn, 1) := by decide +kernel
theorem dX5_set_32 : decode cX5_set 32 = .ok (.aload_n 0, 1) := by decide +kernel
theorem dX5_set_33 : decode cX5_set 33 = .ok (.getfield 10, 3) := by decide +kernel
theorem dX5_set_36 : decode cX5_set 36 = .ok (.getfield 131, 3) := by decide +kernel
theorem dX5_set_39 : decode cX5_set 39 = .ok (.iload_n 1, 1) := by decide +kernel
theorem dX5_set_40 : decode cX5_set 40 = .ok (.iaload, 1) := by decide +kernel
theorem dX5_set_41 : decode cX5_set 41 = .ok (.istore_n 3, 1) := by decide +kernel
theorem dX5_set_42 : decode cX5_set 42 = .ok (.iload_n 3, 1) := by decide +kernel
theorem dX5_set_43 : decode cX5_set 43 = .ok (.iload_n 2, 1) := by decide +kernel
theorem dX5_set_44 : decode cX5_set 44 = .ok (.if_icmp .ne 6, 3) := by decide +kernel
theorem dX5_set_47 : decode cX5_set 47 = .ok (.bipush (-4), 2) := by decide +kernel
theorem dX5_set_49 : decode cX5_set 49 = .ok (.ireturn, 1) := by decide +kernel
theorem dX5_set_50 : decode cX5_set 50 = .ok (.aload_n 0, 1) := by decide +kernel
theorem dX5_set_51 : decode cX5_set 51 = .ok (.getfield 22, 3) := by decide +kernel
theorem dX5_set_54 : decode cX5_set 54 = .ok (.aload_n 0, 1) := by decide +kernel
theorem dX5_set_55 : decode cX5_set 55 = .ok (.getfield 10, 3) := by decide +kernel
theorem dX5_set_58 : decode cX5_set 58 = .ok (.invokevirtual 54, 3) := by decide +kernel
theorem dX5_set_61 : decode cX5_set 61 = .ok (.aload_n 0, 1) := by decide +kernel
theorem dX5_set_62 : decode cX5_set 62 = .ok (.getfield 10, 3) := by decide +kernel
theorem dX5_set_65 : decode cX5_set 65 = .ok (.getfield 131, 3) := by decide +kernel
theorem dX5_set_68 : decode cX5_set 68 = .ok (.iload_n 1, 1) := by decide +kernel
theorem dX5_set_69 : decode cX5_set 69 = .ok (.iload_n 2, 1) := by decide +kernel
theorem dX5_set_70 : decode cX5_set 70 = .ok (.iastore, 1) := by decide +kernel
theorem dX5_set_71 : decode cX5_set 71 = .ok (.iload_n 1, 1) := by decide +kernel
theorem dX5_set_72 : decode cX5_set 72 = .ok (.iconst 3, 1) := by decide +kernel
theorem dX5_set_73 : decode cX5_set 73 = .ok (.if_icmp .ne 11, 3) := by decide +kernel
theorem dX5_set_76 : decode cX5_set 76 = .ok (.aload_n 0, 1) := by decide +kernel
theorem dX5_set_77 : decode cX5_set 77 = .ok (.getfield 10, 3) := by decide +kernel
theorem dX5_set_80 : decode cX5_set 80 = .ok (.iload_n 2, 1) := by decide +kernel
theorem dX5_set_81 : decode cX5_set 81 = .ok (.invokevirtual 134, 3) := by decide +kernel
theorem dX5_set_84 : decode cX5_set 84 = .ok (.iload_n 3, 1) := by decide +kernel
theorem dX5_set_85 : decode cX5_set 85 = .ok (.ireturn, 1) := by decide +kernel
theorem dX5_undo_0 : decode cX5_undo 0 = .ok (.aload_n 0, 1) := by decide +kernel
theorem dX5_undo_1 : decode cX5_undo 1 = .ok (.getfield 22, 3) := by decide +kernel
theorem dX5_undo_4 : decode cX5_undo 4 = .ok (.getfield 144, 3) := by decide +kernel
theorem dX5_undo_7 : decode cX5_undo 7 = .ok (.ifCond .ne 6, 3) := by decide +kernel
theorem dX5_undo_10 : decode cX5_undo 10 = .ok (.bipush (-4), 2) := by decide +kernel
theorem dX5_undo_12 : decode cX5_undo 12 = .ok (.ireturn, 1) := by decide +kernel
theorem dX5_undo_13 : decode cX5_undo 13 = .ok (.aload_n 0, 1) := by decide +kernel
theorem dX5_undo_14 : decode cX5_undo 14 = .ok (.getfield 22, 3) := by decide +kernel
theorem dX5_undo_17 : decode cX5_undo 17 = .ok (.aload_n 0, 1) := by decide +kernel
theorem dX5_undo_18 : decode cX5_undo 18 = .ok (.getfield 10, 3) := by decide +kernel
theorem dX5_undo_21 : decode cX5_undo 21 = .ok (.invokevirtual 147, 3) := by decide +kernel
theorem dX5_undo_24 : decode cX5_undo 24 = .ok (.aload_n 0, 1) := by decide +kernel
theorem dX5_undo_25 : decode cX5_undo 25 = .ok (.getfield 22, 3) := by decide +kernel
theorem dX5_undo_28 : decode cX5_undo 28 = .ok (.getfield 144, 3) := by decide +kernel
theorem dX5_undo_31 : decode cX5_undo 31 = .ok (.ireturn, 1) := by decide +kernel
theorem dX5_restore_0 : decode cX5_restore 0 = .ok (.aload_n 0, 1) := by decide +kernel
theorem dX5_restore_1 : decode cX5_restore 1 = .ok (.getfield 33, 3) := by decide +kernel
theorem dX5_restore_4 : decode cX5_restore 4 = .ok (.ifCond .ne 6, 3) := by decide +kernel
theorem dX5_restore_7 : decode cX5_restore 7 = .ok (.bipush (-4), 2) := by decide +kernel
theorem dX5_restore_9 : decode cX5_restore 9 = .ok (.ireturn, 1) := by decide +kernel
theorem dX5_restore_10 : decode cX5_restore 10 = .ok (.aload_n 0, 1) := by decide +kernel
theorem dX5_restore_11 : decode cX5_restore 11 = .ok (.getfield 22, 3) := by decide +kernel
theorem dX5_restore_14 : decode cX5_restore 14 = .ok (.aload_n 0, 1) := by decide +kernel
theorem dX5_restore_15 : decode cX5_restore 15 = .ok (.getfield 10, 3) := by decide +kernel
theorem dX5_restore_18 : decode cX5_restore 18 = .ok (.invokevirtual 54, 3) := by decide +kernel
theorem dX5_restore_21 : decode cX5_restore 21 = .ok (.aload_n 0, 1) := by decide +kernel
theorem dX5_restore_22 : decode cX5_restore 22 = .ok (.getfield 10, 3) := by decide +kernel
theorem dX5_restore_25 : decode cX5_restore 25 = .ok (.aload_n 0, 1) := by decide +kernel
theorem dX5_restore_26 : decode cX5_restore 26 = .ok (.getfield 16, 3) := by decide +kernel
theorem dX5_restore_29 : decode cX5_restore 29 = .ok (.invokevirtual 150, 3) := by decide +kernel
theorem dX5_restore_32 : decode cX5_restore 32 = .ok (.aload_n 0, 1) := by decide +kernel
theorem dX5_restore_33 : decode cX5_restore 33 = .ok (.getfield 10, 3) := by decide +kernel
theorem dX5_restore_36 : decode cX5_restore 36 = .ok (.invokevirtual 107, 3) := by decide +kernel
theorem dX5_restore_39 : decode cX5_restore 39 = .ok (.ireturn, 1) := by decide +kernel
theorem dX5_cost_0 : decode cX5_cost 0 = .ok (.iload_n 1, 1) := by decide +kernel
theorem dX5_cost_1 : decode cX5_cost 1 = .ok (.invokestatic 62, 3) := by decide +kernel
theorem dX5_cost_4 : decode cX5_cost 4 = .ok (.ifCond .ne 5, 3) := by decide +kernel
theorem dX5_cost_7 : decode cX5_cost 7 = .ok (.iconst (-1), 1) := by decide +kernel
theorem dX5_cost_8 : decode cX5_cost 8 = .ok (.ireturn, 1) := by decide +kernel
theorem dX5_cost_9 : decode cX5_cost 9 = .ok (.iload_n 2, 1) := by decide +kernel
theorem dX5_cost_10 : decode cX5_cost 10 = .ok (.invokestatic 110, 3) := by decide +kernel
theorem dX5_cost_13 : decode cX5_cost 13 = .ok (.ifCond .eq 13, 3) := by decide +kernel
theorem dX5_cost_16 : decode cX5_cost 16 = .ok (.iload_n 1, 1) := by decide +kernel
theorem dX5_cost_17 : decode cX5_cost 17 = .ok (.iconst 3, 1) := by decide +kernel
theorem dX5_cost_18 : decode cX5_cost 18 = .ok (.irem, 1) := by decide +kernel
theorem dX5_cost_19 : decode cX5_cost 19 = .ok (.iload_n 3, 1) := by decide +kernel
theorem dX5_cost_20 : decode cX5_cost 20 = .ok (.invokestatic 65, 3) := by decide +kernel
theorem dX5_cost_23 : decode cX5_cost 23 = .ok (.ifCond .ne 6, 3) := by decide +kernel
theorem dX5_cost_26 : decode cX5_cost 26 = .ok (.bipush (-2), 2) := by decide +kernel
theorem dX5_cost_28 : decode cX5_cost 28 = .ok (.ireturn, 1) := by decide +kernel
theorem dX5_cost_29 : decode cX5_cost 29 = .ok (.aload_n 0, 1) := by decide +kernel
theorem dX5_cost_30 : decode cX5_cost 30 = .ok (.getfield 10, 3) := by decide +kernel
theorem dX5_cost_33 : decode cX5_cost 33 = .ok (.iload_n 1, 1) := by decide +kernel
theorem dX5_cost_34 : decode cX5_cost 34 = .ok (.iload_n 2, 1) := by decide +kernel
theorem dX5_cost_35 : decode cX5_cost 35 = .ok (.iload_n 3, 1) := by decide +kernel
theorem dX5_cost_36 : decode cX5_cost 36 = .ok (.invokevirtual 153, 3) := by decide +kernel
theorem dX5_cost_39 : decode cX5_cost 39 = .ok (.ireturn, 1) := by decide +kernel
theorem dX5_cheapest_0 : decode cX5_cheapest 0 = .ok (.iload_n 1, 1) := by decide +kernel
theorem dX5_cheapest_1 : decode cX5_cheapest 1 = .ok (.invokestatic 62, 3) := by decide +kernel
theorem dX5_cheapest_4 : decode cX5_cheapest 4 = .ok (.ifCond .ne 5, 3) := by decide +kernel
theorem dX5_cheapest_7 : decode cX5_cheapest 7 = .ok (.iconst (-1), 1) := by decide +kernel
theorem dX5_cheapest_8 : decode cX5_cheapest 8 = .ok (.ireturn, 1) := by decide +kernel
theorem dX5_cheapest_9 : decode cX5_cheapest 9 = .ok (.iload_n 1, 1) := by decide +kernel
theorem dX5_cheapest_10 : decode cX5_cheapest 10 = .ok (.iconst 3, 1) := by decide +kernel
theorem dX5_cheapest_11 : decode cX5_cheapest 11 = .ok (.irem, 1) := by decide +kernel
theorem dX5_cheapest_12 : decode cX5_cheapest 12 = .ok (.iload_n 2, 1) := by decide +kernel
theorem dX5_cheapest_13 : decode cX5_cheapest 13 = .ok (.invokestatic 65, 3) := by decide +kernel
theorem dX5_cheapest_16 : decode cX5_cheapest 16 = .ok (.ifCond .ne 6, 3) := by decide +kernel
theorem dX5_cheapest_19 : decode cX5_cheapest 19 = .ok (.bipush (-2), 2) := by decide +kernel
theorem dX5_cheapest_21 : decode cX5_cheapest 21 = .ok (.ireturn, 1) := by decide +kernel
theorem dX5_cheapest_22 : decode cX5_cheapest 22 = .ok (.aload_n 0, 1) := by decide +kernel
theorem dX5_cheapest_23 : decode cX5_cheapest 23 = .ok (.getfield 10, 3) := by decide +kernel
theorem dX5_cheapest_26 : decode cX5_cheapest 26 = .ok (.iload_n 1, 1) := by decide +kernel
theorem dX5_cheapest_27 : decode cX5_cheapest 27 = .ok (.iload_n 2, 1) := by decide +kernel
theorem dX5_cheapest_28 : decode cX5_cheapest 28 = .ok (.invokevirtual 157, 3) := by decide +kernel
theorem dX5_cheapest_31 : decode cX5_cheapest 31 = .ok (.ireturn, 1) := by decide +kernel
theorem dX5_plan_0 : decode cX5_plan 0 = .ok (.aload_n 0, 1) := by decide +kernel
theorem dX5_plan_1 : decode cX5_plan 1 = .ok (.iload_n 1, 1) := by decide +kernel
theorem dX5_plan_2 : decode cX5_plan 2 = .ok (.invokevirtual 89, 3) := by decide +kernel
theorem dX5_plan_5 : decode cX5_plan 5 = .ok (.ifCond .ne 5, 3) := by decide +kernel
theorem dX5_plan_8 : decode cX5_plan 8 = .ok (.iconst (-1), 1) := by decide +kernel
theorem dX5_plan_9 : decode cX5_plan 9 = .ok (.ireturn, 1) := by decide +kernel
theorem dX5_plan_10 : decode cX5_plan 10 = .ok (.aload_n 0, 1) := by decide +kernel
theorem dX5_plan_11 : decode cX5_plan 11 = .ok (.getfield 10, 3) := by decide +kernel
theorem dX5_plan_14 : decode cX5_plan 14 = .ok (.getfield 92, 3) := by decide +kernel
theorem dX5_plan_17 : decode cX5_plan 17 = .ok (.iload_n 1, 1) := by decide +kernel
theorem dX5_plan_18 : decode cX5_plan 18 = .ok (.aaload, 1) := by decide +kernel
theorem dX5_plan_19 : decode cX5_plan 19 = .ok (.astore_n 3, 1) := by decide +kernel
theorem dX5_plan_20 : decode cX5_plan 20 = .ok (.iload_n 2, 1) := by decide +kernel
theorem dX5_plan_21 : decode cX5_plan 21 = .ok (.tableswitch 150 0 10 #[59, 64, 69, 74, 79, 84, 97, 114, 127, 132, 145], 59) := by decide +kernel
theorem dX5_plan_80 : decode cX5_plan 80 = .ok (.aload_n 3, 1) := by decide +kernel
theorem dX5_plan_81 : decode cX5_plan 81 = .ok (.getfield 160, 3) := by decide +kernel
theorem dX5_plan_84 : decode cX5_plan 84 = .ok (.ireturn, 1) := by decide +kernel
theorem dX5_plan_85 : decode cX5_plan 85 = .ok (.aload_n 3, 1) := by decide +kernel
theorem dX5_plan_86 : decode cX5_plan 86 = .ok (.getfield 163, 3) := by decide +kernel
theorem dX5_plan_89 : decode cX5_plan 89 = .ok (.ireturn, 1) := by decide +kernel
theorem dX5_plan_90 : decode cX5_plan 90 = .ok (.aload_n 3, 1) := by decide +kernel
theorem dX5_plan_91 : decode cX5_plan 91 = .ok (.getfield 166, 3) := by decide +kernel
theorem dX5_plan_94 : decode cX5_plan 94 = .ok (.ireturn, 1) := by decide +kernel
theorem dX5_plan_95 : decode cX5_plan 95 = .ok (.aload_n 3, 1) := by decide +kernel
theorem dX5_plan_96 : decode cX5_plan 96 = .ok (.getfield 169, 3) := by decide +kernel
theorem dX5_plan_99 : decode cX5_plan 99 = .ok (.ireturn, 1) := by decide +kernel
theorem dX5_plan_100 : decode cX5_plan 100 = .ok (.aload_n 3, 1) := by decide +kernel
theorem dX5_plan_101 : decode cX5_plan 101 = .ok (.getfield 172, 3) := by decide +kernel
theorem dX5_plan_104 : decode cX5_plan 104 = .ok (.ireturn, 1) := by decide +kernel
theorem dX5_plan_105 : decode cX5_plan 105 = .ok (.aload_n 0, 1) := by decide +kernel
theorem dX5_plan_106 : decode cX5_plan 106 = .ok (.getfield 10, 3) := by decide +kernel
theorem dX5_plan_109 : decode cX5_plan 109 = .ok (.getfield 175, 3) := by decide +kernel
theorem dX5_plan_112 : decode cX5_plan 112 = .ok (.aload_n 3, 1) := by decide +kernel
theorem dX5_plan_113 : decode cX5_plan 113 = .ok (.getfield 178, 3) := by decide +kernel
theorem dX5_plan_116 : decode cX5_plan 116 = .ok (.isub, 1) := by decide +kernel
theorem dX5_plan_117 : decode cX5_plan 117 = .ok (.ireturn, 1) := by decide +kernel
theorem dX5_plan_118 : decode cX5_plan 118 = .ok (.aload_n 0, 1) := by decide +kernel
theorem dX5_plan_119 : decode cX5_plan 119 = .ok (.getfield 10, 3) := by decide +kernel
theorem dX5_plan_122 : decode cX5_plan 122 = .ok (.iload_n 1, 1) := by decide +kernel
theorem dX5_plan_123 : decode cX5_plan 123 = .ok (.invokevirtual 181, 3) := by decide +kernel
theorem dX5_plan_126 : decode cX5_plan 126 = .ok (.ifCond .eq 7, 3) := by decide +kernel
theorem dX5_plan_129 : decode cX5_plan 129 = .ok (.iconst 1, 1) := by decide +kernel
theorem dX5_plan_130 : decode cX5_plan 130 = .ok (.goto 4, 3) := by decide +kernel
theorem dX5_plan_133 : decode cX5_plan 133 = .ok (.iconst 0, 1) := by decide +kernel
theorem dX5_plan_134 : decode cX5_plan 134 = .ok (.ireturn, 1) := by decide +kernel
theorem dX5_plan_135 : decode cX5_plan 135 = .ok (.aload_n 3, 1) := by decide +kernel
theorem dX5_plan_136 : decode cX5_plan 136 = .ok (.getfield 96, 3) := by decide +kernel
theorem dX5_plan_139 : decode cX5_plan 139 = .ok (.ifCond .eq 7, 3) := by decide +kernel
theorem dX5_plan_142 : decode cX5_plan 142 = .ok (.iconst 1, 1) := by decide +kernel
theorem dX5_plan_143 : decode cX5_plan 143 = .ok (.goto 4, 3) := by decide +kernel
theorem dX5_plan_146 : decode cX5_plan 146 = .ok (.iconst 0, 1) := by decide +kernel
theorem dX5_plan_147 : decode cX5_plan 147 = .ok (.ireturn, 1) := by decide +kernel
theorem dX5_plan_148 : decode cX5_plan 148 = .ok (.aload_n 3, 1) := by decide +kernel
theorem dX5_plan_149 : decode cX5_plan 149 = .ok (.getfield 184, 3) := by decide +kernel
theorem dX5_plan_152 : decode cX5_plan 152 = .ok (.ireturn, 1) := by decide +kernel
theorem dX5_plan_153 : decode cX5_plan 153 = .ok (.aload_n 0, 1) := by decide +kernel
theorem dX5_plan_154 : decode cX5_plan 154 = .ok (.getfield 10, 3) := by decide +kernel
theorem dX5_plan_157 : decode cX5_plan 157 = .ok (.getfield 175, 3) := by decide +kernel
theorem dX5_plan_160 : decode cX5_plan 160 = .ok (.aload_n 3, 1) := by decide +kernel
theorem dX5_plan_161 : decode cX5_plan 161 = .ok (.getfield 187, 3) := by decide +kernel
theorem dX5_plan_164 : decode cX5_plan 164 = .ok (.isub, 1) := by decide +kernel
theorem dX5_plan_165 : decode cX5_plan 165 = .ok (.ireturn, 1) := by decide +kernel
theorem dX5_plan_166 : decode cX5_plan 166 = .ok (.aload_n 3, 1) := by decide +kernel
theorem dX5_plan_167 : decode cX5_plan 167 = .ok (.getfield 190, 3) := by decide +kernel
theorem dX5_plan_170 : decode cX5_plan 170 = .ok (.ireturn, 1) := by decide +kernel
theorem dX5_plan_171 : decode cX5_plan 171 = .ok (.bipush (-2), 2) := by decide +kernel
theorem dX5_plan_173 : decode cX5_plan 173 = .ok (.ireturn, 1) := by decide +kernel
theorem dX5_reason_0 : decode cX5_reason 0 = .ok (.iload_n 1, 1) := by decide +kernel
theorem dX5_reason_1 : decode cX5_reason 1 = .ok (.invokestatic 62, 3) := by decide +kernel
theorem dX5_reason_4 : decode cX5_reason 4 = .ok (.ifCond .ne 5, 3) := by decide +kernel
theorem dX5_reason_7 : decode cX5_reason 7 = .ok (.iconst (-1), 1) := by decide +kernel
theorem dX5_reason_8 : decode cX5_reason 8 = .ok (.ireturn, 1) := by decide +kernel
theorem dX5_reason_9 : decode cX5_reason 9 = .ok (.iload_n 1, 1) := by decide +kernel
theorem dX5_reason_10 : decode cX5_reason 10 = .ok (.iconst 3, 1) := by decide +kernel
theorem dX5_reason_11 : decode cX5_reason 11 = .ok (.irem, 1) := by decide +kernel
theorem dX5_reason_12 : decode cX5_reason 12 = .ok (.iload_n 2, 1) := by decide +kernel
theorem dX5_reason_13 : decode cX5_reason 13 = .ok (.invokestatic 65, 3) := by decide +kernel
theorem dX5_reason_16 : decode cX5_reason 16 = .ok (.ifCond .ne 6, 3) := by decide +kernel
theorem dX5_reason_19 : decode cX5_reason 19 = .ok (.bipush (-2), 2) := by decide +kernel
theorem dX5_reason_21 : decode cX5_reason 21 = .ok (.ireturn, 1) := by decide +kernel
theorem dX5_reason_22 : decode cX5_reason 22 = .ok (.aload_n 0, 1) := by decide +kernel
theorem dX5_reason_23 : decode cX5_reason 23 = .ok (.getfield 10, 3) := by decide +kernel
theorem dX5_reason_26 : decode cX5_reason 26 = .ok (.iload_n 1, 1) := by decide +kernel
theorem dX5_reason_27 : decode cX5_reason 27 = .ok (.iload_n 2, 1) := by decide +kernel
theorem dX5_reason_28 : decode cX5_reason 28 = .ok (.invokevirtual 191, 3) := by decide +kernel
theorem dX5_reason_31 : decode cX5_reason 31 = .ok (.ireturn, 1) := by decide +kernel
theorem dX5_ifAsked_0 : decode cX5_ifAsked 0 = .ok (.iload_n 1, 1) := by decide +kernel
theorem dX5_ifAsked_1 : decode cX5_ifAsked 1 = .ok (.invokestatic 62, 3) := by decide +kernel
theorem dX5_ifAsked_4 : decode cX5_ifAsked 4 = .ok (.ifCond .ne 5, 3) := by decide +kernel
theorem dX5_ifAsked_7 : decode cX5_ifAsked 7 = .ok (.iconst (-1), 1) := by decide +kernel
theorem dX5_ifAsked_8 : decode cX5_ifAsked 8 = .ok (.ireturn, 1) := by decide +kernel
theorem dX5_ifAsked_9 : decode cX5_ifAsked 9 = .ok (.iload_n 1, 1) := by decide +kernel
theorem dX5_ifAsked_10 : decode cX5_ifAsked 10 = .ok (.iconst 3, 1) := by decide +kernel
theorem dX5_ifAsked_11 : decode cX5_ifAsked 11 = .ok (.irem, 1) := by decide +kernel
theorem dX5_ifAsked_12 : decode cX5_ifAsked 12 = .ok (.iload_n 2, 1) := by decide +kernel
theorem dX5_ifAsked_13 : decode cX5_ifAsked 13 = .ok (.invokestatic 65, 3) := by decide +kernel
theorem dX5_ifAsked_16 : decode cX5_ifAsked 16 = .ok (.ifCond .eq 12, 3) := by decide +kernel
theorem dX5_ifAsked_19 : decode cX5_ifAsked 19 = .ok (.iload_n 3, 1) := by decide +kernel
theorem dX5_ifAsked_20 : decode cX5_ifAsked 20 = .ok (.ifCond .lt 8, 3) := by decide +kernel
theorem dX5_ifAsked_23 : decode cX5_ifAsked 23 = .ok (.iload_n 3, 1) := by decide +kernel
theorem dX5_ifAsked_24 : decode cX5_ifAsked 24 = .ok (.iconst 4, 1) := by decide +kernel
theorem dX5_ifAsked_25 : decode cX5_ifAsked 25 = .ok (.if_icmp .le 6, 3) := by decide +kernel
theorem dX5_ifAsked_28 : decode cX5_ifAsked 28 = .ok (.bipush (-2), 2) := by decide +kernel
theorem dX5_ifAsked_30 : decode cX5_ifAsked 30 = .ok (.ireturn, 1) := by decide +kernel
theorem dX5_ifAsked_31 : decode cX5_ifAsked 31 = .ok (.aload_n 0, 1) := by decide +kernel
theorem dX5_ifAsked_32 : decode cX5_ifAsked 32 = .ok (.getfield 10, 3) := by decide +kernel
theorem dX5_ifAsked_35 : decode cX5_ifAsked 35 = .ok (.iload_n 1, 1) := by decide +kernel
theorem dX5_ifAsked_36 : decode cX5_ifAsked 36 = .ok (.iload_n 2, 1) := by decide +kernel
theorem dX5_ifAsked_37 : decode cX5_ifAsked 37 = .ok (.invokevirtual 191, 3) := by decide +kernel
theorem dX5_ifAsked_40 : decode cX5_ifAsked 40 = .ok (.ifCond .ne 7, 3) := by decide +kernel
theorem dX5_ifAsked_43 : decode cX5_ifAsked 43 = .ok (.iconst 1, 1) := by decide +kernel
theorem dX5_ifAsked_44 : decode cX5_ifAsked 44 = .ok (.goto 4, 3) := by decide +kernel
theorem dX5_ifAsked_47 : decode cX5_ifAsked 47 = .ok (.iconst 0, 1) := by decide +kernel
theorem dX5_ifAsked_48 : decode cX5_ifAsked 48 = .ok (.istore 4, 2) := by decide +kernel
theorem dX5_ifAsked_50 : decode cX5_ifAsked 50 = .ok (.aload_n 0, 1) := by decide +kernel
theorem dX5_ifAsked_51 : decode cX5_ifAsked 51 = .ok (.getfield 10, 3) := by decide +kernel
theorem dX5_ifAsked_54 : decode cX5_ifAsked 54 = .ok (.iload_n 1, 1) := by decide +kernel
theorem dX5_ifAsked_55 : decode cX5_ifAsked 55 = .ok (.iload_n 2, 1) := by decide +kernel
theorem dX5_ifAsked_56 : decode cX5_ifAsked 56 = .ok (.invokevirtual 157, 3) := by decide +kernel
theorem dX5_ifAsked_59 : decode cX5_ifAsked 59 = .ok (.istore 5, 2) := by decide +kernel
theorem dX5_ifAsked_61 : decode cX5_ifAsked 61 = .ok (.iload 4, 2) := by decide +kernel
theorem dX5_ifAsked_63 : decode cX5_ifAsked 63 = .ok (.ifCond .eq 18, 3) := by decide +kernel
theorem dX5_ifAsked_66 : decode cX5_ifAsked 66 = .ok (.aload_n 0, 1) := by decide +kernel
theorem dX5_ifAsked_67 : decode cX5_ifAsked 67 = .ok (.getfield 10, 3) := by decide +kernel
theorem dX5_ifAsked_70 : decode cX5_ifAsked 70 = .ok (.getfield 92, 3) := by decide +kernel
theorem dX5_ifAsked_73 : decode cX5_ifAsked 73 = .ok (.iload_n 1, 1) := by decide +kernel
theorem dX5_ifAsked_74 : decode cX5_ifAsked 74 = .ok (.aaload, 1) := by decide +kernel
theorem dX5_ifAsked_75 : decode cX5_ifAsked 75 = .ok (.getfield 160, 3) := by decide +kernel
theorem dX5_ifAsked_78 : decode cX5_ifAsked 78 = .ok (.goto 5, 3) := by decide +kernel
theorem dX5_ifAsked_81 : decode cX5_ifAsked 81 = .ok (.iload 5, 2) := by decide +kernel
theorem dX5_ifAsked_83 : decode cX5_ifAsked 83 = .ok (.istore 6, 2) := by decide +kernel
theorem dX5_ifAsked_85 : decode cX5_ifAsked 85 = .ok (.aload_n 0, 1) := by decide +kernel
theorem dX5_ifAsked_86 : decode cX5_ifAsked 86 = .ok (.getfield 10, 3) := by decide +kernel
theorem dX5_ifAsked_89 : decode cX5_ifAsked 89 = .ok (.iload_n 1, 1) := by decide +kernel
theorem dX5_ifAsked_90 : decode cX5_ifAsked 90 = .ok (.iload 6, 2) := by decide +kernel
theorem dX5_ifAsked_92 : decode cX5_ifAsked 92 = .ok (.iload_n 2, 1) := by decide +kernel
theorem dX5_ifAsked_93 : decode cX5_ifAsked 93 = .ok (.invokevirtual 153, 3) := by decide +kernel
theorem dX5_ifAsked_96 : decode cX5_ifAsked 96 = .ok (.istore 7, 2) := by decide +kernel
theorem dX5_ifAsked_98 : decode cX5_ifAsked 98 = .ok (.iload 4, 2) := by decide +kernel
theorem dX5_ifAsked_100 : decode cX5_ifAsked 100 = .ok (.ifCond .eq 7, 3) := by decide +kernel
theorem dX5_ifAsked_103 : decode cX5_ifAsked 103 = .ok (.iconst 0, 1) := by decide +kernel
theorem dX5_ifAsked_104 : decode cX5_ifAsked 104 = .ok (.goto 12, 3) := by decide +kernel
theorem dX5_ifAsked_107 : decode cX5_ifAsked 107 = .ok (.aload_n 0, 1) := by decide +kernel
theorem dX5_ifAsked_108 : decode cX5_ifAsked 108 = .ok (.getfield 10, 3) := by decide +kernel
theorem dX5_ifAsked_111 : decode cX5_ifAsked 111 = .ok (.getfield 131, 3) := by decide +kernel
theorem dX5_ifAsked_114 : decode cX5_ifAsked 114 = .ok (.iconst 0, 1) := by decide +kernel
theorem dX5_ifAsked_115 : decode cX5_ifAsked 115 = .ok (.iaload, 1) := by decide +kernel
theorem dX5_ifAsked_116 : decode cX5_ifAsked 116 = .ok (.istore 8, 2) := by decide +kernel
theorem dX5_ifAsked_118 : decode cX5_ifAsked 118 = .ok (.iload_n 3, 1) := by decide +kernel
theorem dX5_ifAsked_119 : decode cX5_ifAsked 119 = .ok (.tableswitch 81 0 3 #[29, 35, 38, 62], 29) := by decide +kernel
theorem dX5_ifAsked_148 : decode cX5_ifAsked 148 = .ok (.iload 7, 2) := by decide +kernel
theorem dX5_ifAsked_150 : decode cX5_ifAsked 150 = .ok (.iload 8, 2) := by decide +kernel
theorem dX5_ifAsked_152 : decode cX5_ifAsked 152 = .ok (.iadd, 1) := by decide +kernel
theorem dX5_ifAsked_153 : decode cX5_ifAsked 153 = .ok (.ireturn, 1) := by decide +kernel
theorem dX5_ifAsked_154 : decode cX5_ifAsked 154 = .ok (.iload 6, 2) := by decide +kernel
theorem dX5_ifAsked_156 : decode cX5_ifAsked 156 = .ok (.ireturn, 1) := by decide +kernel
theorem dX5_ifAsked_157 : decode cX5_ifAsked 157 = .ok (.iload 4, 2) := by decide +kernel
theorem dX5_ifAsked_159 : decode cX5_ifAsked 159 = .ok (.ifCond .eq 20, 3) := by decide +kernel
theorem dX5_ifAsked_162 : decode cX5_ifAsked 162 = .ok (.aload_n 0, 1) := by decide +kernel
theorem dX5_ifAsked_163 : decode cX5_ifAsked 163 = .ok (.getfield 10, 3) := by decide +kernel
theorem dX5_ifAsked_166 : decode cX5_ifAsked 166 = .ok (.iload_n 1, 1) := by decide +kernel
theorem dX5_ifAsked_167 : decode cX5_ifAsked 167 = .ok (.iload 7, 2) := by decide +kernel
theorem dX5_ifAsked_169 : decode cX5_ifAsked 169 = .ok (.invokevirtual 194, 3) := by decide +kernel
theorem dX5_ifAsked_172 : decode cX5_ifAsked 172 = .ok (.ifCond .eq 7, 3) := by decide +kernel
theorem dX5_ifAsked_175 : decode cX5_ifAsked 175 = .ok (.iconst 1, 1) := by decide +kernel
theorem dX5_ifAsked_176 : decode cX5_ifAsked 176 = .ok (.goto 4, 3) := by decide +kernel
theorem dX5_ifAsked_179 : decode cX5_ifAsked 179 = .ok (.iconst 0, 1) := by decide +kernel
theorem dX5_ifAsked_180 : decode cX5_ifAsked 180 = .ok (.ireturn, 1) := by decide +kernel
theorem dX5_ifAsked_181 : decode cX5_ifAsked 181 = .ok (.iload 4, 2) := by decide +kernel
theorem dX5_ifAsked_183 : decode cX5_ifAsked 183 = .ok (.ifCond .eq 8, 3) := by decide +kernel
theorem dX5_ifAsked_186 : decode cX5_ifAsked 186 = .ok (.bipush (-4), 2) := by decide +kernel
theorem dX5_ifAsked_188 : decode cX5_ifAsked 188 = .ok (.goto 11, 3) := by decide +kernel
theorem dX5_ifAsked_191 : decode cX5_ifAsked 191 = .ok (.aload_n 0, 1) := by decide +kernel
theorem dX5_ifAsked_192 : decode cX5_ifAsked 192 = .ok (.getfield 10, 3) := by decide +kernel
theorem dX5_ifAsked_195 : decode cX5_ifAsked 195 = .ok (.iload_n 1, 1) := by decide +kernel
theorem dX5_ifAsked_196 : decode cX5_ifAsked 196 = .ok (.invokevirtual 197, 3) := by decide +kernel
theorem dX5_ifAsked_199 : decode cX5_ifAsked 199 = .ok (.ireturn, 1) := by decide +kernel
theorem dX5_ifAsked_200 : decode cX5_ifAsked 200 = .ok (.iload 7, 2) := by decide +kernel
theorem dX5_ifAsked_202 : decode cX5_ifAsked 202 = .ok (.iload 8, 2) := by decide +kernel
theorem dX5_ifAsked_204 : decode cX5_ifAsked 204 = .ok (.iadd, 1) := by decide +kernel
theorem dX5_ifAsked_205 : decode cX5_ifAsked 205 = .ok (.aload_n 0, 1) := by decide +kernel
theorem dX5_ifAsked_206 : decode cX5_ifAsked 206 = .ok (.getfield 10, 3) := by decide +kernel
theorem dX5_ifAsked_209 : decode cX5_ifAsked 209 = .ok (.iload_n 1, 1) := by decide +kernel
theorem dX5_ifAsked_210 : decode cX5_ifAsked 210 = .ok (.iload 5, 2) := by decide +kernel
theorem dX5_ifAsked_212 : decode cX5_ifAsked 212 = .ok (.iload_n 2, 1) := by decide +kernel
theorem dX5_ifAsked_213 : decode cX5_ifAsked 213 = .ok (.invokevirtual 153, 3) := by decide +kernel
theorem dX5_ifAsked_216 : decode cX5_ifAsked 216 = .ok (.isub, 1) := by decide +kernel
theorem dX5_ifAsked_217 : decode cX5_ifAsked 217 = .ok (.ireturn, 1) := by decide +kernel
theorem dX5_reach_0 : decode cX5_reach 0 = .ok (.iload_n 1, 1) := by decide +kernel
theorem dX5_reach_1 : decode cX5_reach 1 = .ok (.invokestatic 62, 3) := by decide +kernel
theorem dX5_reach_4 : decode cX5_reach 4 = .ok (.ifCond .ne 5, 3) := by decide +kernel
theorem dX5_reach_7 : decode cX5_reach 7 = .ok (.iconst (-1), 1) := by decide +kernel
theorem dX5_reach_8 : decode cX5_reach 8 = .ok (.ireturn, 1) := by decide +kernel
theorem dX5_reach_9 : decode cX5_reach 9 = .ok (.iload_n 2, 1) := by decide +kernel
theorem dX5_reach_10 : decode cX5_reach 10 = .ok (.invokestatic 110, 3) := by decide +kernel
theorem dX5_reach_13 : decode cX5_reach 13 = .ok (.ifCond .ne 6, 3) := by decide +kernel
theorem dX5_reach_16 : decode cX5_reach 16 = .ok (.bipush (-2), 2) := by decide +kernel
theorem dX5_reach_18 : decode cX5_reach 18 = .ok (.ireturn, 1) := by decide +kernel
theorem dX5_reach_19 : decode cX5_reach 19 = .ok (.iconst 0, 1) := by decide +kernel
theorem dX5_reach_20 : decode cX5_reach 20 = .ok (.istore_n 3, 1) := by decide +kernel
theorem dX5_reach_21 : decode cX5_reach 21 = .ok (.iload_n 1, 1) := by decide +kernel
theorem dX5_reach_22 : decode cX5_reach 22 = .ok (.iconst 3, 1) := by decide +kernel
theorem dX5_reach_23 : decode cX5_reach 23 = .ok (.irem, 1) := by decide +kernel
theorem dX5_reach_24 : decode cX5_reach 24 = .ok (.invokestatic 201, 3) := by decide +kernel
theorem dX5_reach_27 : decode cX5_reach 27 = .ok (.istore 4, 2) := by decide +kernel
theorem dX5_reach_29 : decode cX5_reach 29 = .ok (.iload 4, 2) := by decide +kernel
theorem dX5_reach_31 : decode cX5_reach 31 = .ok (.sipush 200, 3) := by decide +kernel
theorem dX5_reach_34 : decode cX5_reach 34 = .ok (.if_icmp .gt 26, 3) := by decide +kernel
theorem dX5_reach_37 : decode cX5_reach 37 = .ok (.aload_n 0, 1) := by decide +kernel
theorem dX5_reach_38 : decode cX5_reach 38 = .ok (.getfield 10, 3) := by decide +kernel
theorem dX5_reach_41 : decode cX5_reach 41 = .ok (.iload_n 1, 1) := by decide +kernel
theorem dX5_reach_42 : decode cX5_reach 42 = .ok (.iload 4, 2) := by decide +kernel
theorem dX5_reach_44 : decode cX5_reach 44 = .ok (.invokevirtual 157, 3) := by decide +kernel
theorem dX5_reach_47 : decode cX5_reach 47 = .ok (.iload_n 2, 1) := by decide +kernel
theorem dX5_reach_48 : decode cX5_reach 48 = .ok (.if_icmp .ne 6, 3) := by decide +kernel
theorem dX5_reach_51 : decode cX5_reach 51 = .ok (.iinc 3 1, 3) := by decide +kernel
theorem dX5_reach_54 : decode cX5_reach 54 = .ok (.iinc 4 1, 3) := by decide +kernel
theorem dX5_reach_57 : decode cX5_reach 57 = .ok (.goto (-28), 3) := by decide +kernel
theorem dX5_reach_60 : decode cX5_reach 60 = .ok (.iload_n 3, 1) := by decide +kernel
theorem dX5_reach_61 : decode cX5_reach 61 = .ok (.ireturn, 1) := by decide +kernel
theorem dX5_oldest_0 : decode cX5_oldest 0 = .ok (.aload_n 0, 1) := by decide +kernel
theorem dX5_oldest_1 : decode cX5_oldest 1 = .ok (.getfield 10, 3) := by decide +kernel
theorem dX5_oldest_4 : decode cX5_oldest 4 = .ok (.invokevirtual 204, 3) := by decide +kernel
theorem dX5_oldest_7 : decode cX5_oldest 7 = .ok (.ireturn, 1) := by decide +kernel
theorem dX5_tableOf_0 : decode cX5_tableOf 0 = .ok (.iload_n 1, 1) := by decide +kernel
theorem dX5_tableOf_1 : decode cX5_tableOf 1 = .ok (.invokestatic 37, 3) := by decide +kernel
theorem dX5_tableOf_4 : decode cX5_tableOf 4 = .ok (.ifCond .ne 5, 3) := by decide +kernel
theorem dX5_tableOf_7 : decode cX5_tableOf 7 = .ok (.iconst (-1), 1) := by decide +kernel
theorem dX5_tableOf_8 : decode cX5_tableOf 8 = .ok (.ireturn, 1) := by decide +kernel
theorem dX5_tableOf_9 : decode cX5_tableOf 9 = .ok (.aload_n 0, 1) := by decide +kernel
theorem dX5_tableOf_10 : decode cX5_tableOf 10 = .ok (.getfield 10, 3) := by decide +kernel
theorem dX5_tableOf_13 : decode cX5_tableOf 13 = .ok (.getfield 41, 3) := by decide +kernel
theorem dX5_tableOf_16 : decode cX5_tableOf 16 = .ok (.iload_n 1, 1) := by decide +kernel
theorem dX5_tableOf_17 : decode cX5_tableOf 17 = .ok (.aaload, 1) := by decide +kernel
theorem dX5_tableOf_18 : decode cX5_tableOf 18 = .ok (.astore_n 3, 1) := by decide +kernel
theorem dX5_tableOf_19 : decode cX5_tableOf 19 = .ok (.iload_n 2, 1) := by decide +kernel
theorem dX5_tableOf_20 : decode cX5_tableOf 20 = .ok (.tableswitch 65 0 4 #[36, 41, 46, 55, 60], 36) := by decide +kernel
theorem dX5_tableOf_56 : decode cX5_tableOf 56 = .ok (.aload_n 3, 1) := by decide +kernel
theorem dX5_tableOf_57 : decode cX5_tableOf 57 = .ok (.getfield 51, 3) := by decide +kernel
theorem dX5_tableOf_60 : decode cX5_tableOf 60 = .ok (.ireturn, 1) := by decide +kernel
theorem dX5_tableOf_61 : decode cX5_tableOf 61 = .ok (.aload_n 3, 1) := by decide +kernel
theorem dX5_tableOf_62 : decode cX5_tableOf 62 = .ok (.getfield 45, 3) := by decide +kernel
theorem dX5_tableOf_65 : decode cX5_tableOf 65 = .ok (.ireturn, 1) := by decide +kernel
theorem dX5_tableOf_66 : decode cX5_tableOf 66 = .ok (.aload_n 0, 1) := by decide +kernel
theorem dX5_tableOf_67 : decode cX5_tableOf 67 = .ok (.getfield 10, 3) := by decide +kernel
theorem dX5_tableOf_70 : decode cX5_tableOf 70 = .ok (.iload_n 1, 1) := by decide +kernel
theorem dX5_tableOf_71 : decode cX5_tableOf 71 = .ok (.invokevirtual 207, 3) := by decide +kernel
theorem dX5_tableOf_74 : decode cX5_tableOf 74 = .ok (.ireturn, 1) := by decide +kernel
theorem dX5_tableOf_75 : decode cX5_tableOf 75 = .ok (.aload_n 3, 1) := by decide +kernel
theorem dX5_tableOf_76 : decode cX5_tableOf 76 = .ok (.getfield 210, 3) := by decide +kernel
theorem dX5_tableOf_79 : decode cX5_tableOf 79 = .ok (.ireturn, 1) := by decide +kernel
theorem dX5_tableOf_80 : decode cX5_tableOf 80 = .ok (.aload_n 3, 1) := by decide +kernel
theorem dX5_tableOf_81 : decode cX5_tableOf 81 = .ok (.getfield 211, 3) := by decide +kernel
theorem dX5_tableOf_84 : decode cX5_tableOf 84 = .ok (.ireturn, 1) := by decide +kernel
theorem dX5_tableOf_85 : decode cX5_tableOf 85 = .ok (.bipush (-2), 2) := by decide +kernel
theorem dX5_tableOf_87 : decode cX5_tableOf 87 = .ok (.ireturn, 1) := by decide +kernel
theorem dX5_count_0 : decode cX5_count 0 = .ok (.iload_n 1, 1) := by decide +kernel
theorem dX5_count_1 : decode cX5_count 1 = .ok (.tableswitch 229 0 16 #[83, 91, 99, 107, 115, 123, 131, 139, 147, 155, 163, 173, 183, 193, 203, 213, 221], 83) := by decide +kernel
theorem dX5_count_84 : decode cX5_count 84 = .ok (.aload_n 0, 1) := by decide +kernel
theorem dX5_count_85 : decode cX5_count 85 = .ok (.getfield 10, 3) := by decide +kernel
theorem dX5_count_88 : decode cX5_count 88 = .ok (.invokevirtual 107, 3) := by decide +kernel
theorem dX5_count_91 : decode cX5_count 91 = .ok (.ireturn, 1) := by decide +kernel
theorem dX5_count_92 : decode cX5_count 92 = .ok (.aload_n 0, 1) := by decide +kernel
theorem dX5_count_93 : decode cX5_count 93 = .ok (.getfield 10, 3) := by decide +kernel
theorem dX5_count_96 : decode cX5_count 96 = .ok (.invokevirtual 101, 3) := by decide +kernel
theorem dX5_count_99 : decode cX5_count 99 = .ok (.ireturn, 1) := by decide +kernel
theorem dX5_count_100 : decode cX5_count 100 = .ok (.aload_n 0, 1) := by decide +kernel
theorem dX5_count_101 : decode cX5_count 101 = .ok (.getfield 10, 3) := by decide +kernel
theorem dX5_count_104 : decode cX5_count 104 = .ok (.invokevirtual 214, 3) := by decide +kernel
theorem dX5_count_107 : decode cX5_count 107 = .ok (.ireturn, 1) := by decide +kernel
theorem dX5_count_108 : decode cX5_count 108 = .ok (.aload_n 0, 1) := by decide +kernel
theorem dX5_count_109 : decode cX5_count 109 = .ok (.getfield 10, 3) := by decide +kernel
theorem dX5_count_112 : decode cX5_count 112 = .ok (.getfield 175, 3) := by decide +kernel
theorem dX5_count_115 : decode cX5_count 115 = .ok (.ireturn, 1) := by decide +kernel
theorem dX5_count_116 : decode cX5_count 116 = .ok (.aload_n 0, 1) := by decide +kernel
theorem dX5_count_117 : decode cX5_count 117 = .ok (.getfield 10, 3) := by decide +kernel
theorem dX5_count_120 : decode cX5_count 120 = .ok (.getfield 217, 3) := by decide +kernel
theorem dX5_count_123 : decode cX5_count 123 = .ok (.ireturn, 1) := by decide +kernel
theorem dX5_count_124 : decode cX5_count 124 = .ok (.aload_n 0, 1) := by decide +kernel
theorem dX5_count_125 : decode cX5_count 125 = .ok (.getfield 10, 3) := by decide +kernel
theorem dX5_count_128 : decode cX5_count 128 = .ok (.getfield 220, 3) := by decide +kernel
theorem dX5_count_131 : decode cX5_count 131 = .ok (.ireturn, 1) := by decide +kernel
theorem dX5_count_132 : decode cX5_count 132 = .ok (.aload_n 0, 1) := by decide +kernel
theorem dX5_count_133 : decode cX5_count 133 = .ok (.getfield 10, 3) := by decide +kernel
theorem dX5_count_136 : decode cX5_count 136 = .ok (.getfield 223, 3) := by decide +kernel
theorem dX5_count_139 : decode cX5_count 139 = .ok (.ireturn, 1) := by decide +kernel
theorem dX5_count_140 : decode cX5_count 140 = .ok (.aload_n 0, 1) := by decide +kernel
theorem dX5_count_141 : decode cX5_count 141 = .ok (.getfield 10, 3) := by decide +kernel
theorem dX5_count_144 : decode cX5_count 144 = .ok (.getfield 224, 3) := by decide +kernel
theorem dX5_count_147 : decode cX5_count 147 = .ok (.ireturn, 1) := by decide +kernel
theorem dX5_count_148 : decode cX5_count 148 = .ok (.aload_n 0, 1) := by decide +kernel
theorem dX5_count_149 : decode cX5_count 149 = .ok (.getfield 10, 3) := by decide +kernel
theorem dX5_count_152 : decode cX5_count 152 = .ok (.getfield 227, 3) := by decide +kernel
theorem dX5_count_155 : decode cX5_count 155 = .ok (.ireturn, 1) := by decide +kernel
theorem dX5_count_156 : decode cX5_count 156 = .ok (.aload_n 0, 1) := by decide +kernel
theorem dX5_count_157 : decode cX5_count 157 = .ok (.getfield 10, 3) := by decide +kernel
theorem dX5_count_160 : decode cX5_count 160 = .ok (.getfield 230, 3) := by decide +kernel
theorem dX5_count_163 : decode cX5_count 163 = .ok (.ireturn, 1) := by decide +kernel
theorem dX5_count_164 : decode cX5_count 164 = .ok (.aload_n 0, 1) := by decide +kernel
theorem dX5_count_165 : decode cX5_count 165 = .ok (.getfield 10, 3) := by decide +kernel
theorem dX5_count_168 : decode cX5_count 168 = .ok (.getfield 131, 3) := by decide +kernel
theorem dX5_count_171 : decode cX5_count 171 = .ok (.iconst 0, 1) := by decide +kernel
theorem dX5_count_172 : decode cX5_count 172 = .ok (.iaload, 1) := by decide +kernel
theorem dX5_count_173 : decode cX5_count 173 = .ok (.ireturn, 1) := by decide +kernel
theorem dX5_count_174 : decode cX5_count 174 = .ok (.aload_n 0, 1) := by decide +kernel
theorem dX5_count_175 : decode cX5_count 175 = .ok (.getfield 10, 3) := by decide +kernel
theorem dX5_count_178 : decode cX5_count 178 = .ok (.getfield 131, 3) := by decide +kernel
theorem dX5_count_181 : decode cX5_count 181 = .ok (.iconst 1, 1) := by decide +kernel
theorem dX5_count_182 : decode cX5_count 182 = .ok (.iaload, 1) := by decide +kernel
theorem dX5_count_183 : decode cX5_count 183 = .ok (.ireturn, 1) := by decide +kernel
theorem dX5_count_184 : decode cX5_count 184 = .ok (.aload_n 0, 1) := by decide +kernel
theorem dX5_count_185 : decode cX5_count 185 = .ok (.getfield 10, 3) := by decide +kernel
theorem dX5_count_188 : decode cX5_count 188 = .ok (.getfield 131, 3) := by decide +kernel
theorem dX5_count_191 : decode cX5_count 191 = .ok (.iconst 2, 1) := by decide +kernel
theorem dX5_count_192 : decode cX5_count 192 = .ok (.iaload, 1) := by decide +kernel
theorem dX5_count_193 : decode cX5_count 193 = .ok (.ireturn, 1) := by decide +kernel
theorem dX5_count_194 : decode cX5_count 194 = .ok (.aload_n 0, 1) := by decide +kernel
theorem dX5_count_195 : decode cX5_count 195 = .ok (.getfield 10, 3) := by decide +kernel
theorem dX5_count_198 : decode cX5_count 198 = .ok (.getfield 131, 3) := by decide +kernel
theorem dX5_count_201 : decode cX5_count 201 = .ok (.iconst 3, 1) := by decide +kernel
theorem dX5_count_202 : decode cX5_count 202 = .ok (.iaload, 1) := by decide +kernel
theorem dX5_count_203 : decode cX5_count 203 = .ok (.ireturn, 1) := by decide +kernel
theorem dX5_count_204 : decode cX5_count 204 = .ok (.aload_n 0, 1) := by decide +kernel
theorem dX5_count_205 : decode cX5_count 205 = .ok (.getfield 10, 3) := by decide +kernel
theorem dX5_count_208 : decode cX5_count 208 = .ok (.getfield 131, 3) := by decide +kernel
theorem dX5_count_211 : decode cX5_count 211 = .ok (.iconst 4, 1) := by decide +kernel
theorem dX5_count_212 : decode cX5_count 212 = .ok (.iaload, 1) := by decide +kernel
theorem dX5_count_213 : decode cX5_count 213 = .ok (.ireturn, 1) := by decide +kernel
theorem dX5_count_214 : decode cX5_count 214 = .ok (.aload_n 0, 1) := by decide +kernel
theorem dX5_count_215 : decode cX5_count 215 = .ok (.getfield 22, 3) := by decide +kernel
theorem dX5_count_218 : decode cX5_count 218 = .ok (.getfield 144, 3) := by decide +kernel
theorem dX5_count_221 : decode cX5_count 221 = .ok (.ireturn, 1) := by decide +kernel
theorem dX5_count_222 : decode cX5_count 222 = .ok (.aload_n 0, 1) := by decide +kernel
theorem dX5_count_223 : decode cX5_count 223 = .ok (.getfield 29, 3) := by decide +kernel
theorem dX5_count_226 : decode cX5_count 226 = .ok (.getfield 137, 3) := by decide +kernel
theorem dX5_count_229 : decode cX5_count 229 = .ok (.ireturn, 1) := by decide +kernel
theorem dX5_count_230 : decode cX5_count 230 = .ok (.bipush (-2), 2) := by decide +kernel
theorem dX5_count_232 : decode cX5_count 232 = .ok (.ireturn, 1) := by decide +kernel
theorem dX5_isTable_0 : decode cX5_isTable 0 = .ok (.iload_n 0, 1) := by decide +kernel
theorem dX5_isTable_1 : decode cX5_isTable 1 = .ok (.ifCond .lt 12, 3) := by decide +kernel
theorem dX5_isTable_4 : decode cX5_isTable 4 = .ok (.iload_n 0, 1) := by decide +kernel
theorem dX5_isTable_5 : decode cX5_isTable 5 = .ok (.iconst 4, 1) := by decide +kernel
theorem dX5_isTable_6 : decode cX5_isTable 6 = .ok (.if_icmp .ge 7, 3) := by decide +kernel
theorem dX5_isTable_9 : decode cX5_isTable 9 = .ok (.iconst 1, 1) := by decide +kernel
theorem dX5_isTable_10 : decode cX5_isTable 10 = .ok (.goto 4, 3) := by decide +kernel
theorem dX5_isTable_13 : decode cX5_isTable 13 = .ok (.iconst 0, 1) := by decide +kernel
theorem dX5_isTable_14 : decode cX5_isTable 14 = .ok (.ireturn, 1) := by decide +kernel
theorem dX5_isShape_0 : decode cX5_isShape 0 = .ok (.iload_n 0, 1) := by decide +kernel
theorem dX5_isShape_1 : decode cX5_isShape 1 = .ok (.ifCond .lt 13, 3) := by decide +kernel
theorem dX5_isShape_4 : decode cX5_isShape 4 = .ok (.iload_n 0, 1) := by decide +kernel
theorem dX5_isShape_5 : decode cX5_isShape 5 = .ok (.bipush 12, 2) := by decide +kernel
theorem dX5_isShape_7 : decode cX5_isShape 7 = .ok (.if_icmp .ge 7, 3) := by decide +kernel
theorem dX5_isShape_10 : decode cX5_isShape 10 = .ok (.iconst 1, 1) := by decide +kernel
theorem dX5_isShape_11 : decode cX5_isShape 11 = .ok (.goto 4, 3) := by decide +kernel
theorem dX5_isShape_14 : decode cX5_isShape 14 = .ok (.iconst 0, 1) := by decide +kernel
theorem dX5_isShape_15 : decode cX5_isShape 15 = .ok (.ireturn, 1) := by decide +kernel
theorem dX5_isWay_0 : decode cX5_isWay 0 = .ok (.iload_n 0, 1) := by decide +kernel
theorem dX5_isWay_1 : decode cX5_isWay 1 = .ok (.ifCond .lt 12, 3) := by decide +kernel
theorem dX5_isWay_4 : decode cX5_isWay 4 = .ok (.iload_n 0, 1) := by decide +kernel
theorem dX5_isWay_5 : decode cX5_isWay 5 = .ok (.iconst 3, 1) := by decide +kernel
theorem dX5_isWay_6 : decode cX5_isWay 6 = .ok (.if_icmp .ge 7, 3) := by decide +kernel
theorem dX5_isWay_9 : decode cX5_isWay 9 = .ok (.iconst 1, 1) := by decide +kernel
theorem dX5_isWay_10 : decode cX5_isWay 10 = .ok (.goto 4, 3) := by decide +kernel
theorem dX5_isWay_13 : decode cX5_isWay 13 = .ok (.iconst 0, 1) := by decide +kernel
theorem dX5_isWay_14 : decode cX5_isWay 14 = .ok (.ireturn, 1) := by decide +kernel
theorem dX5_hasPlan_0 : decode cX5_hasPlan 0 = .ok (.iload_n 1, 1) := by decide +kernel
theorem dX5_hasPlan_1 : decode cX5_hasPlan 1 = .ok (.invokestatic 62, 3) := by decide +kernel
theorem dX5_hasPlan_4 : decode cX5_hasPlan 4 = .ok (.ifCond .eq 22, 3) := by decide +kernel
theorem dX5_hasPlan_7 : decode cX5_hasPlan 7 = .ok (.aload_n 0, 1) := by decide +kernel
theorem dX5_hasPlan_8 : decode cX5_hasPlan 8 = .ok (.getfield 10, 3) := by decide +kernel
theorem dX5_hasPlan_11 : decode cX5_hasPlan 11 = .ok (.getfield 92, 3) := by decide +kernel
theorem dX5_hasPlan_14 : decode cX5_hasPlan 14 = .ok (.iload_n 1, 1) := by decide +kernel
theorem dX5_hasPlan_15 : decode cX5_hasPlan 15 = .ok (.aaload, 1) := by decide +kernel
theorem dX5_hasPlan_16 : decode cX5_hasPlan 16 = .ok (.getfield 104, 3) := by decide +kernel
theorem dX5_hasPlan_19 : decode cX5_hasPlan 19 = .ok (.ifCond .eq 7, 3) := by decide +kernel
theorem dX5_hasPlan_22 : decode cX5_hasPlan 22 = .ok (.iconst 1, 1) := by decide +kernel
theorem dX5_hasPlan_23 : decode cX5_hasPlan 23 = .ok (.goto 4, 3) := by decide +kernel
theorem dX5_hasPlan_26 : decode cX5_hasPlan 26 = .ok (.iconst 0, 1) := by decide +kernel
theorem dX5_hasPlan_27 : decode cX5_hasPlan 27 = .ok (.ireturn, 1) := by decide +kernel
theorem dX5_leastNumberOf_0 : decode cX5_leastNumberOf 0 = .ok (.iload_n 0, 1) := by decide +kernel
theorem dX5_leastNumberOf_1 : decode cX5_leastNumberOf 1 = .ok (.ifCond .ne 7, 3) := by decide +kernel
theorem dX5_leastNumberOf_4 : decode cX5_leastNumberOf 4 = .ok (.iconst 0, 1) := by decide +kernel
theorem dX5_leastNumberOf_5 : decode cX5_leastNumberOf 5 = .ok (.goto 4, 3) := by decide +kernel
theorem dX5_leastNumberOf_8 : decode cX5_leastNumberOf 8 = .ok (.iconst 1, 1) := by decide +kernel
theorem dX5_leastNumberOf_9 : decode cX5_leastNumberOf 9 = .ok (.ireturn, 1) := by decide +kernel
theorem dX5_isNumberOf_0 : decode cX5_isNumberOf 0 = .ok (.iload_n 1, 1) := by decide +kernel
theorem dX5_isNumberOf_1 : decode cX5_isNumberOf 1 = .ok (.iload_n 0, 1) := by decide +kernel
theorem dX5_isNumberOf_2 : decode cX5_isNumberOf 2 = .ok (.invokestatic 201, 3) := by decide +kernel
theorem dX5_isNumberOf_5 : decode cX5_isNumberOf 5 = .ok (.if_icmp .lt 14, 3) := by decide +kernel
theorem dX5_isNumberOf_8 : decode cX5_isNumberOf 8 = .ok (.iload_n 1, 1) := by decide +kernel
theorem dX5_isNumberOf_9 : decode cX5_isNumberOf 9 = .ok (.sipush 9999, 3) := by decide +kernel
theorem dX5_isNumberOf_12 : decode cX5_isNumberOf 12 = .ok (.if_icmp .gt 7, 3) := by decide +kernel
theorem dX5_isNumberOf_15 : decode cX5_isNumberOf 15 = .ok (.iconst 1, 1) := by decide +kernel
theorem dX5_isNumberOf_16 : decode cX5_isNumberOf 16 = .ok (.goto 4, 3) := by decide +kernel
theorem dX5_isNumberOf_19 : decode cX5_isNumberOf 19 = .ok (.iconst 0, 1) := by decide +kernel
theorem dX5_isNumberOf_20 : decode cX5_isNumberOf 20 = .ok (.ireturn, 1) := by decide +kernel
theorem dX5_bitsOf_0 : decode cX5_bitsOf 0 = .ok (.iconst 0, 1) := by decide +kernel
theorem dX5_bitsOf_1 : decode cX5_bitsOf 1 = .ok (.istore_n 1, 1) := by decide +kernel
theorem dX5_bitsOf_2 : decode cX5_bitsOf 2 = .ok (.iload_n 1, 1) := by decide +kernel
theorem dX5_bitsOf_3 : decode cX5_bitsOf 3 = .ok (.bipush 31, 2) := by decide +kernel
theorem dX5_bitsOf_5 : decode cX5_bitsOf 5 = .ok (.if_icmp .ge 15, 3) := by decide +kernel
theorem dX5_bitsOf_8 : decode cX5_bitsOf 8 = .ok (.iload_n 0, 1) := by decide +kernel
theorem dX5_bitsOf_9 : decode cX5_bitsOf 9 = .ok (.iload_n 1, 1) := by decide +kernel
theorem dX5_bitsOf_10 : decode cX5_bitsOf 10 = .ok (.ishr, 1) := by decide +kernel
theorem dX5_bitsOf_11 : decode cX5_bitsOf 11 = .ok (.ifCond .le 9, 3) := by decide +kernel
theorem dX5_bitsOf_14 : decode cX5_bitsOf 14 = .ok (.iinc 1 1, 3) := by decide +kernel
theorem dX5_bitsOf_17 : decode cX5_bitsOf 17 = .ok (.goto (-15), 3) := by decide +kernel
theorem dX5_bitsOf_20 : decode cX5_bitsOf 20 = .ok (.iload_n 1, 1) := by decide +kernel
theorem dX5_bitsOf_21 : decode cX5_bitsOf 21 = .ok (.ireturn, 1) := by decide +kernel
theorem dX5_quotient_0 : decode cX5_quotient 0 = .ok (.iload_n 1, 1) := by decide +kernel
theorem dX5_quotient_1 : decode cX5_quotient 1 = .ok (.iconst 1, 1) := by decide +kernel
theorem dX5_quotient_2 : decode cX5_quotient 2 = .ok (.if_icmp .ge 7, 3) := by decide +kernel
theorem dX5_quotient_5 : decode cX5_quotient 5 = .ok (.iconst 0, 1) := by decide +kernel
theorem dX5_quotient_6 : decode cX5_quotient 6 = .ok (.goto 6, 3) := by decide +kernel
theorem dX5_quotient_9 : decode cX5_quotient 9 = .ok (.iload_n 0, 1) := by decide +kernel
theorem dX5_quotient_10 : decode cX5_quotient 10 = .ok (.iload_n 1, 1) := by decide +kernel
theorem dX5_quotient_11 : decode cX5_quotient 11 = .ok (.idiv, 1) := by decide +kernel
theorem dX5_quotient_12 : decode cX5_quotient 12 = .ok (.ireturn, 1) := by decide +kernel
theorem dJ9_abs_0f7a4_0 : decode cJ9_abs_0f7a4 0 = .ok (.iload_n 0, 1) := by decide +kernel
theorem dJ9_abs_0f7a4_1 : decode cJ9_abs_0f7a4 1 = .ok (.ifCond .ge 8, 3) := by decide +kernel
theorem dJ9_abs_0f7a4_4 : decode cJ9_abs_0f7a4 4 = .ok (.iload_n 0, 1) := by decide +kernel
theorem dJ9_abs_0f7a4_5 : decode cJ9_abs_0f7a4 5 = .ok (.ineg, 1) := by decide +kernel
theorem dJ9_abs_0f7a4_6 : decode cJ9_abs_0f7a4 6 = .ok (.goto 4, 3) := by decide +kernel
theorem dJ9_abs_0f7a4_9 : decode cJ9_abs_0f7a4 9 = .ok (.iload_n 0, 1) := by decide +kernel
theorem dJ9_abs_0f7a4_10 : decode cJ9_abs_0f7a4 10 = .ok (.ireturn, 1) := by decide +kernel
theorem dJ9_min_7cf53_0 : decode cJ9_min_7cf53 0 = .ok (.iload_n 0, 1) := by decide +kernel
theorem dJ9_min_7cf53_1 : decode cJ9_min_7cf53 1 = .ok (.iload_n 1, 1) := by decide +kernel
theorem dJ9_min_7cf53_2 : decode cJ9_min_7cf53 2 = .ok (.if_icmp .gt 7, 3) := by decide +kernel
theorem dJ9_min_7cf53_5 : decode cJ9_min_7cf53 5 = .ok (.iload_n 0, 1) := by decide +kernel
theorem dJ9_min_7cf53_6 : decode cJ9_min_7cf53 6 = .ok (.goto 4, 3) := by decide +kernel
theorem dJ9_min_7cf53_9 : decode cJ9_min_7cf53 9 = .ok (.iload_n 1, 1) := by decide +kernel
theorem dJ9_min_7cf53_10 : decode cJ9_min_7cf53 10 = .ok (.ireturn, 1) := by decide +kernel
theorem dJ0_length_8abf5_0 : decode cJ0_length_8abf5 0 = .ok (.aload_n 0, 1) := by decide +kernel
theorem dJ0_length_8abf5_1 : decode cJ0_length_8abf5 1 = .ok (.getfield 9, 3) := by decide +kernel
theorem dJ0_length_8abf5_4 : decode cJ0_length_8abf5 4 = .ok (.arraylength, 1) := by decide +kernel
theorem dJ0_length_8abf5_5 : decode cJ0_length_8abf5 5 = .ok (.aload_n 0, 1) := by decide +kernel
theorem dJ0_length_8abf5_6 : decode cJ0_length_8abf5 6 = .ok (.invokevirtual 335, 3) := by decide +kernel
theorem dJ0_length_8abf5_9 : decode cJ0_length_8abf5 9 = .ok (.ishr, 1) := by decide +kernel
theorem dJ0_length_8abf5_10 : decode cJ0_length_8abf5 10 = .ok (.ireturn, 1) := by decide +kernel
theorem dJ0_charAt_5068e_0 : decode cJ0_charAt_5068e 0 = .ok (.aload_n 0, 1) := by decide +kernel
theorem dJ0_charAt_5068e_1 : decode cJ0_charAt_5068e 1 = .ok (.invokevirtual 492, 3) := by decide +kernel
theorem dJ0_charAt_5068e_4 : decode cJ0_charAt_5068e 4 = .ok (.ifCond .eq 12, 3) := by decide +kernel
theorem dJ0_charAt_5068e_7 : decode cJ0_charAt_5068e 7 = .ok (.aload_n 0, 1) := by decide +kernel
theorem dJ0_charAt_5068e_8 : decode cJ0_charAt_5068e 8 = .ok (.getfield 9, 3) := by decide +kernel
theorem dJ0_charAt_5068e_11 : decode cJ0_charAt_5068e 11 = .ok (.iload_n 1, 1) := by decide +kernel
theorem dJ0_charAt_5068e_12 : decode cJ0_charAt_5068e 12 = .ok (.invokestatic 495, 3) := by decide +kernel
theorem dJ0_charAt_5068e_15 : decode cJ0_charAt_5068e 15 = .ok (.ireturn, 1) := by decide +kernel
theorem dJ0_charAt_5068e_16 : decode cJ0_charAt_5068e 16 = .ok (.aload_n 0, 1) := by decide +kernel
theorem dJ0_charAt_5068e_17 : decode cJ0_charAt_5068e 17 = .ok (.getfield 9, 3) := by decide +kernel
theorem dJ0_charAt_5068e_20 : decode cJ0_charAt_5068e 20 = .ok (.iload_n 1, 1) := by decide +kernel
theorem dJ0_charAt_5068e_21 : decode cJ0_charAt_5068e 21 = .ok (.invokestatic 498, 3) := by decide +kernel
theorem dJ0_charAt_5068e_24 : decode cJ0_charAt_5068e 24 = .ok (.ireturn, 1) := by decide +kernel
theorem dJ0_coder_7d493_0 : decode cJ0_coder_7d493 0 = .ok (.getstatic 38, 3) := by decide +kernel
theorem dJ0_coder_7d493_3 : decode cJ0_coder_7d493 3 = .ok (.ifCond .eq 10, 3) := by decide +kernel
theorem dJ0_coder_7d493_6 : decode cJ0_coder_7d493 6 = .ok (.aload_n 0, 1) := by decide +kernel
theorem dJ0_coder_7d493_7 : decode cJ0_coder_7d493 7 = .ok (.getfield 15, 3) := by decide +kernel
theorem dJ0_coder_7d493_10 : decode cJ0_coder_7d493 10 = .ok (.goto 4, 3) := by decide +kernel
theorem dJ0_coder_7d493_13 : decode cJ0_coder_7d493 13 = .ok (.iconst 1, 1) := by decide +kernel
theorem dJ0_coder_7d493_14 : decode cJ0_coder_7d493 14 = .ok (.ireturn, 1) := by decide +kernel
theorem dJ0_isLatin1_aae02_0 : decode cJ0_isLatin1_aae02 0 = .ok (.getstatic 38, 3) := by decide +kernel
theorem dJ0_isLatin1_aae02_3 : decode cJ0_isLatin1_aae02 3 = .ok (.ifCond .eq 14, 3) := by decide +kernel
theorem dJ0_isLatin1_aae02_6 : decode cJ0_isLatin1_aae02 6 = .ok (.aload_n 0, 1) := by decide +kernel
theorem dJ0_isLatin1_aae02_7 : decode cJ0_isLatin1_aae02 7 = .ok (.getfield 15, 3) := by decide +kernel
theorem dJ0_isLatin1_aae02_10 : decode cJ0_isLatin1_aae02 10 = .ok (.ifCond .ne 7, 3) := by decide +kernel
theorem dJ0_isLatin1_aae02_13 : decode cJ0_isLatin1_aae02 13 = .ok (.iconst 1, 1) := by decide +kernel
theorem dJ0_isLatin1_aae02_14 : decode cJ0_isLatin1_aae02 14 = .ok (.goto 4, 3) := by decide +kernel
theorem dJ0_isLatin1_aae02_17 : decode cJ0_isLatin1_aae02 17 = .ok (.iconst 0, 1) := by decide +kernel
theorem dJ0_isLatin1_aae02_18 : decode cJ0_isLatin1_aae02 18 = .ok (.ireturn, 1) := by decide +kernel
theorem dJ0_checkIndex_df160_0 : decode cJ0_checkIndex_df160 0 = .ok (.iload_n 0, 1) := by decide +kernel
theorem dJ0_checkIndex_df160_1 : decode cJ0_checkIndex_df160 1 = .ok (.iload_n 1, 1) := by decide +kernel
theorem dJ0_checkIndex_df160_2 : decode cJ0_checkIndex_df160 2 = .ok (.getstatic 1053, 3) := by decide +kernel
theorem dJ0_checkIndex_df160_5 : decode cJ0_checkIndex_df160 5 = .ok (.invokestatic 1059, 3) := by decide +kernel
theorem dJ0_checkIndex_df160_8 : decode cJ0_checkIndex_df160 8 = .ok (.pop, 1) := by decide +kernel
theorem dJ0_checkIndex_df160_9 : decode cJ0_checkIndex_df160 9 = .ok (.return_, 1) := by decide +kernel
theorem dJ1_charAt_3b067_0 : decode cJ1_charAt_3b067 0 = .ok (.iload_n 1, 1) := by decide +kernel
theorem dJ1_charAt_3b067_1 : decode cJ1_charAt_3b067 1 = .ok (.aload_n 0, 1) := by decide +kernel
theorem dJ1_charAt_3b067_2 : decode cJ1_charAt_3b067 2 = .ok (.arraylength, 1) := by decide +kernel
theorem dJ1_charAt_3b067_3 : decode cJ1_charAt_3b067 3 = .ok (.invokestatic 9, 3) := by decide +kernel
theorem dJ1_charAt_3b067_6 : decode cJ1_charAt_3b067 6 = .ok (.aload_n 0, 1) := by decide +kernel
theorem dJ1_charAt_3b067_7 : decode cJ1_charAt_3b067 7 = .ok (.iload_n 1, 1) := by decide +kernel
theorem dJ1_charAt_3b067_8 : decode cJ1_charAt_3b067 8 = .ok (.baload, 1) := by decide +kernel
theorem dJ1_charAt_3b067_9 : decode cJ1_charAt_3b067 9 = .ok (.sipush 255, 3) := by decide +kernel
theorem dJ1_charAt_3b067_12 : decode cJ1_charAt_3b067 12 = .ok (.iand, 1) := by decide +kernel
theorem dJ1_charAt_3b067_13 : decode cJ1_charAt_3b067 13 = .ok (.i2c, 1) := by decide +kernel
theorem dJ1_charAt_3b067_14 : decode cJ1_charAt_3b067 14 = .ok (.ireturn, 1) := by decide +kernel
theorem dJ2_getChar_3b067_0 : decode cJ2_getChar_3b067 0 = .ok (.getstatic 44, 3) := by decide +kernel
theorem dJ2_getChar_3b067_3 : decode cJ2_getChar_3b067 3 = .ok (.ifCond .ne 25, 3) := by decide +kernel
theorem dJ2_getChar_3b067_6 : decode cJ2_getChar_3b067 6 = .ok (.iload_n 1, 1) := by decide +kernel
theorem dJ2_getChar_3b067_7 : decode cJ2_getChar_3b067 7 = .ok (.ifCond .lt 11, 3) := by decide +kernel
theorem dJ2_getChar_3b067_10 : decode cJ2_getChar_3b067 10 = .ok (.iload_n 1, 1) := by decide +kernel
theorem dJ2_getChar_3b067_11 : decode cJ2_getChar_3b067 11 = .ok (.aload_n 0, 1) := by decide +kernel
theorem dJ2_getChar_3b067_12 : decode cJ2_getChar_3b067 12 = .ok (.invokestatic 48, 3) := by decide +kernel
theorem dJ2_getChar_3b067_15 : decode cJ2_getChar_3b067 15 = .ok (.if_icmp .lt 13, 3) := by decide +kernel
theorem dJ2_getChar_3b067_18 : decode cJ2_getChar_3b067 18 = .ok (.new 52, 3) := by decide +kernel
theorem dJ2_getChar_3b067_21 : decode cJ2_getChar_3b067 21 = .ok (.dup, 1) := by decide +kernel
theorem dJ2_getChar_3b067_22 : decode cJ2_getChar_3b067 22 = .ok (.ldc 54, 2) := by decide +kernel
theorem dJ2_getChar_3b067_24 : decode cJ2_getChar_3b067 24 = .ok (.invokespecial 56, 3) := by decide +kernel
theorem dJ2_getChar_3b067_27 : decode cJ2_getChar_3b067 27 = .ok (.athrow, 1) := by decide +kernel
theorem dJ2_getChar_3b067_28 : decode cJ2_getChar_3b067 28 = .ok (.iload_n 1, 1) := by decide +kernel
theorem dJ2_getChar_3b067_29 : decode cJ2_getChar_3b067 29 = .ok (.iconst 1, 1) := by decide +kernel
theorem dJ2_getChar_3b067_30 : decode cJ2_getChar_3b067 30 = .ok (.ishl, 1) := by decide +kernel
theorem dJ2_getChar_3b067_31 : decode cJ2_getChar_3b067 31 = .ok (.istore_n 1, 1) := by decide +kernel
theorem dJ2_getChar_3b067_32 : decode cJ2_getChar_3b067 32 = .ok (.aload_n 0, 1) := by decide +kernel
theorem dJ2_getChar_3b067_33 : decode cJ2_getChar_3b067 33 = .ok (.iload_n 1, 1) := by decide +kernel
theorem dJ2_getChar_3b067_34 : decode cJ2_getChar_3b067 34 = .ok (.iinc 1 1, 3) := by decide +kernel
theorem dJ2_getChar_3b067_37 : decode cJ2_getChar_3b067 37 = .ok (.baload, 1) := by decide +kernel
theorem dJ2_getChar_3b067_38 : decode cJ2_getChar_3b067 38 = .ok (.sipush 255, 3) := by decide +kernel
theorem dJ2_getChar_3b067_41 : decode cJ2_getChar_3b067 41 = .ok (.iand, 1) := by decide +kernel
theorem dJ2_getChar_3b067_42 : decode cJ2_getChar_3b067 42 = .ok (.getstatic 59, 3) := by decide +kernel
theorem dJ2_getChar_3b067_45 : decode cJ2_getChar_3b067 45 = .ok (.ishl, 1) := by decide +kernel
theorem dJ2_getChar_3b067_46 : decode cJ2_getChar_3b067 46 = .ok (.aload_n 0, 1) := by decide +kernel
theorem dJ2_getChar_3b067_47 : decode cJ2_getChar_3b067 47 = .ok (.iload_n 1, 1) := by decide +kernel
theorem dJ2_getChar_3b067_48 : decode cJ2_getChar_3b067 48 = .ok (.baload, 1) := by decide +kernel
theorem dJ2_getChar_3b067_49 : decode cJ2_getChar_3b067 49 = .ok (.sipush 255, 3) := by decide +kernel
theorem dJ2_getChar_3b067_52 : decode cJ2_getChar_3b067 52 = .ok (.iand, 1) := by decide +kernel
theorem dJ2_getChar_3b067_53 : decode cJ2_getChar_3b067 53 = .ok (.getstatic 63, 3) := by decide +kernel
theorem dJ2_getChar_3b067_56 : decode cJ2_getChar_3b067 56 = .ok (.ishl, 1) := by decide +kernel
theorem dJ2_getChar_3b067_57 : decode cJ2_getChar_3b067 57 = .ok (.ior, 1) := by decide +kernel
theorem dJ2_getChar_3b067_58 : decode cJ2_getChar_3b067 58 = .ok (.i2c, 1) := by decide +kernel
theorem dJ2_getChar_3b067_59 : decode cJ2_getChar_3b067 59 = .ok (.ireturn, 1) := by decide +kernel
theorem dJ2_length_9d52b_0 : decode cJ2_length_9d52b 0 = .ok (.aload_n 0, 1) := by decide +kernel
theorem dJ2_length_9d52b_1 : decode cJ2_length_9d52b 1 = .ok (.arraylength, 1) := by decide +kernel
theorem dJ2_length_9d52b_2 : decode cJ2_length_9d52b 2 = .ok (.iconst 1, 1) := by decide +kernel
theorem dJ2_length_9d52b_3 : decode cJ2_length_9d52b 3 = .ok (.ishr, 1) := by decide +kernel
theorem dJ2_length_9d52b_4 : decode cJ2_length_9d52b 4 = .ok (.ireturn, 1) := by decide +kernel
theorem dJ2_charAt_3b067_0 : decode cJ2_charAt_3b067 0 = .ok (.iload_n 1, 1) := by decide +kernel
theorem dJ2_charAt_3b067_1 : decode cJ2_charAt_3b067 1 = .ok (.aload_n 0, 1) := by decide +kernel
theorem dJ2_charAt_3b067_2 : decode cJ2_charAt_3b067 2 = .ok (.invokestatic 67, 3) := by decide +kernel
theorem dJ2_charAt_3b067_5 : decode cJ2_charAt_3b067 5 = .ok (.aload_n 0, 1) := by decide +kernel
theorem dJ2_charAt_3b067_6 : decode cJ2_charAt_3b067 6 = .ok (.iload_n 1, 1) := by decide +kernel
theorem dJ2_charAt_3b067_7 : decode cJ2_charAt_3b067 7 = .ok (.invokestatic 71, 3) := by decide +kernel
theorem dJ2_charAt_3b067_10 : decode cJ2_charAt_3b067 10 = .ok (.ireturn, 1) := by decide +kernel
theorem dJ2_checkIndex_2214a_0 : decode cJ2_checkIndex_2214a 0 = .ok (.iload_n 0, 1) := by decide +kernel
theorem dJ2_checkIndex_2214a_1 : decode cJ2_checkIndex_2214a 1 = .ok (.aload_n 1, 1) := by decide +kernel
theorem dJ2_checkIndex_2214a_2 : decode cJ2_checkIndex_2214a 2 = .ok (.invokestatic 48, 3) := by decide +kernel
theorem dJ2_checkIndex_2214a_5 : decode cJ2_checkIndex_2214a 5 = .ok (.invokestatic 414, 3) := by decide +kernel
theorem dJ2_checkIndex_2214a_8 : decode cJ2_checkIndex_2214a 8 = .ok (.return_, 1) := by decide +kernel
theorem dJ3_checkIndex_8e157_0 : decode cJ3_checkIndex_8e157 0 = .ok (.iload_n 0, 1) := by decide +kernel
theorem dJ3_checkIndex_8e157_1 : decode cJ3_checkIndex_8e157 1 = .ok (.ifCond .lt 8, 3) := by decide +kernel
theorem dJ3_checkIndex_8e157_4 : decode cJ3_checkIndex_8e157 4 = .ok (.iload_n 0, 1) := by decide +kernel
theorem dJ3_checkIndex_8e157_5 : decode cJ3_checkIndex_8e157 5 = .ok (.iload_n 1, 1) := by decide +kernel
theorem dJ3_checkIndex_8e157_6 : decode cJ3_checkIndex_8e157 6 = .ok (.if_icmp .lt 10, 3) := by decide +kernel
theorem dJ3_checkIndex_8e157_9 : decode cJ3_checkIndex_8e157 9 = .ok (.aload_n 2, 1) := by decide +kernel
theorem dJ3_checkIndex_8e157_10 : decode cJ3_checkIndex_8e157 10 = .ok (.iload_n 0, 1) := by decide +kernel
theorem dJ3_checkIndex_8e157_11 : decode cJ3_checkIndex_8e157 11 = .ok (.iload_n 1, 1) := by decide +kernel
theorem dJ3_checkIndex_8e157_12 : decode cJ3_checkIndex_8e157 12 = .ok (.invokestatic 95, 3) := by decide +kernel
theorem dJ3_checkIndex_8e157_15 : decode cJ3_checkIndex_8e157 15 = .ok (.athrow, 1) := by decide +kernel
theorem dJ3_checkIndex_8e157_16 : decode cJ3_checkIndex_8e157 16 = .ok (.iload_n 0, 1) := by decide +kernel
theorem dJ3_checkIndex_8e157_17 : decode cJ3_checkIndex_8e157 17 = .ok (.ireturn, 1) := by decide +kernel
theorem dL_cell_0 : decode cL_cell 0 = .ok (.iload_n 1, 1) := by decide +kernel
theorem dL_cell_1 : decode cL_cell 1 = .ok (.aload_n 0, 1) := by decide +kernel
theorem dL_cell_2 : decode cL_cell 2 = .ok (.arraylength, 1) := by decide +kernel
theorem dL_cell_3 : decode cL_cell 3 = .ok (.if_icmp .ge 9, 3) := by decide +kernel
theorem dL_cell_6 : decode cL_cell 6 = .ok (.aload_n 0, 1) := by decide +kernel
theorem dL_cell_7 : decode cL_cell 7 = .ok (.iload_n 1, 1) := by decide +kernel
theorem dL_cell_8 : decode cL_cell 8 = .ok (.iaload, 1) := by decide +kernel
theorem dL_cell_9 : decode cL_cell 9 = .ok (.goto 15, 3) := by decide +kernel
theorem dL_cell_12 : decode cL_cell 12 = .ok (.ldc 7, 2) := by decide +kernel
theorem dL_cell_14 : decode cL_cell 14 = .ok (.iload_n 1, 1) := by decide +kernel
theorem dL_cell_15 : decode cL_cell 15 = .ok (.sipush 4096, 3) := by decide +kernel
theorem dL_cell_18 : decode cL_cell 18 = .ok (.irem, 1) := by decide +kernel
theorem dL_cell_19 : decode cL_cell 19 = .ok (.imul, 1) := by decide +kernel
theorem dL_cell_20 : decode cL_cell 20 = .ok (.sipush 317, 3) := by decide +kernel
theorem dL_cell_23 : decode cL_cell 23 = .ok (.iadd, 1) := by decide +kernel
theorem dL_cell_24 : decode cL_cell 24 = .ok (.ldc 8, 2) := by decide +kernel
theorem dL_cell_26 : decode cL_cell 26 = .ok (.iand, 1) := by decide +kernel
theorem dL_cell_27 : decode cL_cell 27 = .ok (.ireturn, 1) := by decide +kernel
theorem dL_acts_0 : decode cL_acts 0 = .ok (.iload_n 1, 1) := by decide +kernel
theorem dL_acts_1 : decode cL_acts 1 = .ok (.bipush 16, 2) := by decide +kernel
theorem dL_acts_3 : decode cL_acts 3 = .ok (.idiv, 1) := by decide +kernel
theorem dL_acts_4 : decode cL_acts 4 = .ok (.istore_n 2, 1) := by decide +kernel
theorem dL_acts_5 : decode cL_acts 5 = .ok (.iload_n 2, 1) := by decide +kernel
theorem dL_acts_6 : decode cL_acts 6 = .ok (.bipush 64, 2) := by decide +kernel
theorem dL_acts_8 : decode cL_acts 8 = .ok (.idiv, 1) := by decide +kernel
theorem dL_acts_9 : decode cL_acts 9 = .ok (.iconst 5, 1) := by decide +kernel
theorem dL_acts_10 : decode cL_acts 10 = .ok (.irem, 1) := by decide +kernel
theorem dL_acts_11 : decode cL_acts 11 = .ok (.ifCond .ne 17, 3) := by decide +kernel
theorem dL_acts_14 : decode cL_acts 14 = .ok (.iconst 1, 1) := by decide +kernel
theorem dL_acts_15 : decode cL_acts 15 = .ok (.iload_n 2, 1) := by decide +kernel
theorem dL_acts_16 : decode cL_acts 16 = .ok (.sipush 512, 3) := by decide +kernel
theorem dL_acts_19 : decode cL_acts 19 = .ok (.idiv, 1) := by decide +kernel
theorem dL_acts_20 : decode cL_acts 20 = .ok (.sipush 9999, 3) := by decide +kernel
theorem dL_acts_23 : decode cL_acts 23 = .ok (.irem, 1) := by decide +kernel
theorem dL_acts_24 : decode cL_acts 24 = .ok (.iadd, 1) := by decide +kernel
theorem dL_acts_25 : decode cL_acts 25 = .ok (.goto 13, 3) := by decide +kernel
theorem dL_acts_28 : decode cL_acts 28 = .ok (.iconst 1, 1) := by decide +kernel
theorem dL_acts_29 : decode cL_acts 29 = .ok (.iload_n 2, 1) := by decide +kernel
theorem dL_acts_30 : decode cL_acts 30 = .ok (.sipush 512, 3) := by decide +kernel
theorem dL_acts_33 : decode cL_acts 33 = .ok (.idiv, 1) := by decide +kernel
theorem dL_acts_34 : decode cL_acts 34 = .ok (.bipush 60, 2) := by decide +kernel
theorem dL_acts_36 : decode cL_acts 36 = .ok (.irem, 1) := by decide +kernel
theorem dL_acts_37 : decode cL_acts 37 = .ok (.iadd, 1) := by decide +kernel
theorem dL_acts_38 : decode cL_acts 38 = .ok (.istore_n 3, 1) := by decide +kernel
theorem dL_acts_39 : decode cL_acts 39 = .ok (.iload_n 1, 1) := by decide +kernel
theorem dL_acts_40 : decode cL_acts 40 = .ok (.bipush 16, 2) := by decide +kernel
theorem dL_acts_42 : decode cL_acts 42 = .ok (.irem, 1) := by decide +kernel
theorem dL_acts_43 : decode cL_acts 43 = .ok (.tableswitch 234 0 3 #[29, 82, 105, 163], 29) := by decide +kernel
theorem dL_acts_72 : decode cL_acts 72 = .ok (.aload_n 0, 1) := by decide +kernel
theorem dL_acts_73 : decode cL_acts 73 = .ok (.iload_n 2, 1) := by decide +kernel
theorem dL_acts_74 : decode cL_acts 74 = .ok (.iconst 4, 1) := by decide +kernel
theorem dL_acts_75 : decode cL_acts 75 = .ok (.irem, 1) := by decide +kernel
theorem dL_acts_76 : decode cL_acts 76 = .ok (.iload_n 2, 1) := by decide +kernel
theorem dL_acts_77 : decode cL_acts 77 = .ok (.iconst 4, 1) := by decide +kernel
theorem dL_acts_78 : decode cL_acts 78 = .ok (.idiv, 1) := by decide +kernel
theorem dL_acts_79 : decode cL_acts 79 = .ok (.iconst 2, 1) := by decide +kernel
theorem dL_acts_80 : decode cL_acts 80 = .ok (.irem, 1) := by decide +kernel
theorem dL_acts_81 : decode cL_acts 81 = .ok (.ifCond .ne 7, 3) := by decide +kernel
theorem dL_acts_84 : decode cL_acts 84 = .ok (.iconst 1, 1) := by decide +kernel
theorem dL_acts_85 : decode cL_acts 85 = .ok (.goto 4, 3) := by decide +kernel
theorem dL_acts_88 : decode cL_acts 88 = .ok (.iconst 0, 1) := by decide +kernel
theorem dL_acts_89 : decode cL_acts 89 = .ok (.iload_n 2, 1) := by decide +kernel
theorem dL_acts_90 : decode cL_acts 90 = .ok (.bipush 8, 2) := by decide +kernel
theorem dL_acts_92 : decode cL_acts 92 = .ok (.idiv, 1) := by decide +kernel
theorem dL_acts_93 : decode cL_acts 93 = .ok (.iconst 3, 1) := by decide +kernel
theorem dL_acts_94 : decode cL_acts 94 = .ok (.irem, 1) := by decide +kernel
theorem dL_acts_95 : decode cL_acts 95 = .ok (.ifCond .ne 16, 3) := by decide +kernel
theorem dL_acts_98 : decode cL_acts 98 = .ok (.iconst 1, 1) := by decide +kernel
theorem dL_acts_99 : decode cL_acts 99 = .ok (.iload_n 2, 1) := by decide +kernel
theorem dL_acts_100 : decode cL_acts 100 = .ok (.bipush 32, 2) := by decide +kernel
theorem dL_acts_102 : decode cL_acts 102 = .ok (.idiv, 1) := by decide +kernel
theorem dL_acts_103 : decode cL_acts 103 = .ok (.sipush 9999, 3) := by decide +kernel
theorem dL_acts_106 : decode cL_acts 106 = .ok (.irem, 1) := by decide +kernel
theorem dL_acts_107 : decode cL_acts 107 = .ok (.iadd, 1) := by decide +kernel
theorem dL_acts_108 : decode cL_acts 108 = .ok (.goto 13, 3) := by decide +kernel
theorem dL_acts_111 : decode cL_acts 111 = .ok (.iconst 1, 1) := by decide +kernel
theorem dL_acts_112 : decode cL_acts 112 = .ok (.iload_n 2, 1) := by decide +kernel
theorem dL_acts_113 : decode cL_acts 113 = .ok (.bipush 32, 2) := by decide +kernel
theorem dL_acts_115 : decode cL_acts 115 = .ok (.idiv, 1) := by decide +kernel
theorem dL_acts_116 : decode cL_acts 116 = .ok (.sipush 200, 3) := by decide +kernel
theorem dL_acts_119 : decode cL_acts 119 = .ok (.irem, 1) := by decide +kernel
theorem dL_acts_120 : decode cL_acts 120 = .ok (.iadd, 1) := by decide +kernel
theorem dL_acts_121 : decode cL_acts 121 = .ok (.invokevirtual 9, 3) := by decide +kernel
theorem dL_acts_124 : decode cL_acts 124 = .ok (.ireturn, 1) := by decide +kernel
theorem dL_acts_125 : decode cL_acts 125 = .ok (.aload_n 0, 1) := by decide +kernel
theorem dL_acts_126 : decode cL_acts 126 = .ok (.iload_n 2, 1) := by decide +kernel
theorem dL_acts_127 : decode cL_acts 127 = .ok (.bipush 12, 2) := by decide +kernel
theorem dL_acts_129 : decode cL_acts 129 = .ok (.irem, 1) := by decide +kernel
theorem dL_acts_130 : decode cL_acts 130 = .ok (.iload_n 2, 1) := by decide +kernel
theorem dL_acts_131 : decode cL_acts 131 = .ok (.bipush 16, 2) := by decide +kernel
theorem dL_acts_133 : decode cL_acts 133 = .ok (.idiv, 1) := by decide +kernel
theorem dL_acts_134 : decode cL_acts 134 = .ok (.iconst 3, 1) := by decide +kernel
theorem dL_acts_135 : decode cL_acts 135 = .ok (.irem, 1) := by decide +kernel
theorem dL_acts_136 : decode cL_acts 136 = .ok (.ifCond .le 7, 3) := by decide +kernel
theorem dL_acts_139 : decode cL_acts 139 = .ok (.iconst 1, 1) := by decide +kernel
theorem dL_acts_140 : decode cL_acts 140 = .ok (.goto 4, 3) := by decide +kernel
theorem dL_acts_143 : decode cL_acts 143 = .ok (.iconst 0, 1) := by decide +kernel
theorem dL_acts_144 : decode cL_acts 144 = .ok (.invokevirtual 15, 3) := by decide +kernel
theorem dL_acts_147 : decode cL_acts 147 = .ok (.ireturn, 1) := by decide +kernel
theorem dL_acts_148 : decode cL_acts 148 = .ok (.iload_n 2, 1) := by decide +kernel
theorem dL_acts_149 : decode cL_acts 149 = .ok (.iconst 3, 1) := by decide +kernel
theorem dL_acts_150 : decode cL_acts 150 = .ok (.irem, 1) := by decide +kernel
theorem dL_acts_151 : decode cL_acts 151 = .ok (.ifCond .ne 16, 3) := by decide +kernel
theorem dL_acts_154 : decode cL_acts 154 = .ok (.aload_n 0, 1) := by decide +kernel
theorem dL_acts_155 : decode cL_acts 155 = .ok (.iload_n 2, 1) := by decide +kernel
theorem dL_acts_156 : decode cL_acts 156 = .ok (.iconst 4, 1) := by decide +kernel
theorem dL_acts_157 : decode cL_acts 157 = .ok (.idiv, 1) := by decide +kernel
theorem dL_acts_158 : decode cL_acts 158 = .ok (.bipush 12, 2) := by decide +kernel
theorem dL_acts_160 : decode cL_acts 160 = .ok (.irem, 1) := by decide +kernel
theorem dL_acts_161 : decode cL_acts 161 = .ok (.invokevirtual 19, 3) := by decide +kernel
theorem dL_acts_164 : decode cL_acts 164 = .ok (.goto 41, 3) := by decide +kernel
theorem dL_acts_167 : decode cL_acts 167 = .ok (.aload_n 0, 1) := by decide +kernel
theorem dL_acts_168 : decode cL_acts 168 = .ok (.iload_n 2, 1) := by decide +kernel
theorem dL_acts_169 : decode cL_acts 169 = .ok (.bipush 12, 2) := by decide +kernel
theorem dL_acts_171 : decode cL_acts 171 = .ok (.irem, 1) := by decide +kernel
theorem dL_acts_172 : decode cL_acts 172 = .ok (.iload_n 2, 1) := by decide +kernel
theorem dL_acts_173 : decode cL_acts 173 = .ok (.bipush 16, 2) := by decide +kernel
theorem dL_acts_175 : decode cL_acts 175 = .ok (.idiv, 1) := by decide +kernel
theorem dL_acts_176 : decode cL_acts 176 = .ok (.iconst 3, 1) := by decide +kernel
theorem dL_acts_177 : decode cL_acts 177 = .ok (.irem, 1) := by decide +kernel
theorem dL_acts_178 : decode cL_acts 178 = .ok (.iload_n 3, 1) := by decide +kernel
theorem dL_acts_179 : decode cL_acts 179 = .ok (.iload_n 2, 1) := by decide +kernel
theorem dL_acts_180 : decode cL_acts 180 = .ok (.bipush 32, 2) := by decide +kernel
theorem dL_acts_182 : decode cL_acts 182 = .ok (.idiv, 1) := by decide +kernel
theorem dL_acts_183 : decode cL_acts 183 = .ok (.bipush 20, 2) := by decide +kernel
theorem dL_acts_185 : decode cL_acts 185 = .ok (.irem, 1) := by decide +kernel
theorem dL_acts_186 : decode cL_acts 186 = .ok (.iload_n 2, 1) := by decide +kernel
theorem dL_acts_187 : decode cL_acts 187 = .ok (.bipush 32, 2) := by decide +kernel
theorem dL_acts_189 : decode cL_acts 189 = .ok (.idiv, 1) := by decide +kernel
theorem dL_acts_190 : decode cL_acts 190 = .ok (.bipush 20, 2) := by decide +kernel
theorem dL_acts_192 : decode cL_acts 192 = .ok (.irem, 1) := by decide +kernel
theorem dL_acts_193 : decode cL_acts 193 = .ok (.iload_n 2, 1) := by decide +kernel
theorem dL_acts_194 : decode cL_acts 194 = .ok (.sipush 512, 3) := by decide +kernel
theorem dL_acts_197 : decode cL_acts 197 = .ok (.idiv, 1) := by decide +kernel
theorem dL_acts_198 : decode cL_acts 198 = .ok (.bipush 90, 2) := by decide +kernel
theorem dL_acts_200 : decode cL_acts 200 = .ok (.irem, 1) := by decide +kernel
theorem dL_acts_201 : decode cL_acts 201 = .ok (.iadd, 1) := by decide +kernel
theorem dL_acts_202 : decode cL_acts 202 = .ok (.invokevirtual 23, 3) := by decide +kernel
theorem dL_acts_205 : decode cL_acts 205 = .ok (.ireturn, 1) := by decide +kernel
theorem dL_acts_206 : decode cL_acts 206 = .ok (.aload_n 0, 1) := by decide +kernel
theorem dL_acts_207 : decode cL_acts 207 = .ok (.iload_n 2, 1) := by decide +kernel
theorem dL_acts_208 : decode cL_acts 208 = .ok (.iconst 5, 1) := by decide +kernel
theorem dL_acts_209 : decode cL_acts 209 = .ok (.irem, 1) := by decide +kernel
theorem dL_acts_210 : decode cL_acts 210 = .ok (.iload_n 2, 1) := by decide +kernel
theorem dL_acts_211 : decode cL_acts 211 = .ok (.iconst 5, 1) := by decide +kernel
theorem dL_acts_212 : decode cL_acts 212 = .ok (.irem, 1) := by decide +kernel
theorem dL_acts_213 : decode cL_acts 213 = .ok (.iconst 3, 1) := by decide +kernel
theorem dL_acts_214 : decode cL_acts 214 = .ok (.if_icmp .ne 15, 3) := by decide +kernel
theorem dL_acts_217 : decode cL_acts 217 = .ok (.iconst 1, 1) := by decide +kernel
theorem dL_acts_218 : decode cL_acts 218 = .ok (.iload_n 2, 1) := by decide +kernel
theorem dL_acts_219 : decode cL_acts 219 = .ok (.bipush 8, 2) := by decide +kernel
theorem dL_acts_221 : decode cL_acts 221 = .ok (.idiv, 1) := by decide +kernel
theorem dL_acts_222 : decode cL_acts 222 = .ok (.bipush 7, 2) := by decide +kernel
theorem dL_acts_224 : decode cL_acts 224 = .ok (.irem, 1) := by decide +kernel
theorem dL_acts_225 : decode cL_acts 225 = .ok (.iadd, 1) := by decide +kernel
theorem dL_acts_226 : decode cL_acts 226 = .ok (.goto 47, 3) := by decide +kernel
theorem dL_acts_229 : decode cL_acts 229 = .ok (.iload_n 2, 1) := by decide +kernel
theorem dL_acts_230 : decode cL_acts 230 = .ok (.iconst 5, 1) := by decide +kernel
theorem dL_acts_231 : decode cL_acts 231 = .ok (.irem, 1) := by decide +kernel
theorem dL_acts_232 : decode cL_acts 232 = .ok (.iconst 2, 1) := by decide +kernel
theorem dL_acts_233 : decode cL_acts 233 = .ok (.if_icmp .ne 15, 3) := by decide +kernel
theorem dL_acts_236 : decode cL_acts 236 = .ok (.iconst 1, 1) := by decide +kernel
theorem dL_acts_237 : decode cL_acts 237 = .ok (.iload_n 2, 1) := by decide +kernel
theorem dL_acts_238 : decode cL_acts 238 = .ok (.bipush 8, 2) := by decide +kernel
theorem dL_acts_240 : decode cL_acts 240 = .ok (.idiv, 1) := by decide +kernel
theorem dL_acts_241 : decode cL_acts 241 = .ok (.bipush 30, 2) := by decide +kernel
theorem dL_acts_243 : decode cL_acts 243 = .ok (.irem, 1) := by decide +kernel
theorem dL_acts_244 : decode cL_acts 244 = .ok (.iadd, 1) := by decide +kernel
theorem dL_acts_245 : decode cL_acts 245 = .ok (.goto 28, 3) := by decide +kernel
theorem dL_acts_248 : decode cL_acts 248 = .ok (.iload_n 2, 1) := by decide +kernel
theorem dL_acts_249 : decode cL_acts 249 = .ok (.iconst 5, 1) := by decide +kernel
theorem dL_acts_250 : decode cL_acts 250 = .ok (.irem, 1) := by decide +kernel
theorem dL_acts_251 : decode cL_acts 251 = .ok (.ifCond .ne 13, 3) := by decide +kernel
theorem dL_acts_254 : decode cL_acts 254 = .ok (.iload_n 2, 1) := by decide +kernel
theorem dL_acts_255 : decode cL_acts 255 = .ok (.bipush 8, 2) := by decide +kernel
theorem dL_acts_257 : decode cL_acts 257 = .ok (.idiv, 1) := by decide +kernel
theorem dL_acts_258 : decode cL_acts 258 = .ok (.bipush 80, 2) := by decide +kernel
theorem dL_acts_260 : decode cL_acts 260 = .ok (.irem, 1) := by decide +kernel
theorem dL_acts_261 : decode cL_acts 261 = .ok (.goto 12, 3) := by decide +kernel
theorem dL_acts_264 : decode cL_acts 264 = .ok (.iconst 1, 1) := by decide +kernel
theorem dL_acts_265 : decode cL_acts 265 = .ok (.iload_n 2, 1) := by decide +kernel
theorem dL_acts_266 : decode cL_acts 266 = .ok (.bipush 8, 2) := by decide +kernel
theorem dL_acts_268 : decode cL_acts 268 = .ok (.idiv, 1) := by decide +kernel
theorem dL_acts_269 : decode cL_acts 269 = .ok (.bipush 6, 2) := by decide +kernel
theorem dL_acts_271 : decode cL_acts 271 = .ok (.irem, 1) := by decide +kernel
theorem dL_acts_272 : decode cL_acts 272 = .ok (.iadd, 1) := by decide +kernel
theorem dL_acts_273 : decode cL_acts 273 = .ok (.invokevirtual 27, 3) := by decide +kernel
theorem dL_acts_276 : decode cL_acts 276 = .ok (.ireturn, 1) := by decide +kernel
theorem dL_acts_277 : decode cL_acts 277 = .ok (.aload_n 0, 1) := by decide +kernel
theorem dL_acts_278 : decode cL_acts 278 = .ok (.iload_n 2, 1) := by decide +kernel
theorem dL_acts_279 : decode cL_acts 279 = .ok (.bipush 9, 2) := by decide +kernel
theorem dL_acts_281 : decode cL_acts 281 = .ok (.irem, 1) := by decide +kernel
theorem dL_acts_282 : decode cL_acts 282 = .ok (.iload_n 3, 1) := by decide +kernel
theorem dL_acts_283 : decode cL_acts 283 = .ok (.invokevirtual 31, 3) := by decide +kernel
theorem dL_acts_286 : decode cL_acts 286 = .ok (.ireturn, 1) := by decide +kernel
theorem dL_hangs_0 : decode cL_hangs 0 = .ok (.iconst 0, 1) := by decide +kernel
theorem dL_hangs_1 : decode cL_hangs 1 = .ok (.istore_n 2, 1) := by decide +kernel
theorem dL_hangs_2 : decode cL_hangs 2 = .ok (.iconst 0, 1) := by decide +kernel
theorem dL_hangs_3 : decode cL_hangs 3 = .ok (.istore_n 3, 1) := by decide +kernel
theorem dL_hangs_4 : decode cL_hangs 4 = .ok (.iconst 0, 1) := by decide +kernel
theorem dL_hangs_5 : decode cL_hangs 5 = .ok (.istore 4, 2) := by decide +kernel
theorem dL_hangs_7 : decode cL_hangs 7 = .ok (.bipush (-4), 2) := by decide +kernel
theorem dL_hangs_9 : decode cL_hangs 9 = .ok (.istore 5, 2) := by decide +kernel
theorem dL_hangs_11 : decode cL_hangs 11 = .ok (.iconst (-1), 1) := by decide +kernel
theorem dL_hangs_12 : decode cL_hangs 12 = .ok (.istore 6, 2) := by decide +kernel
theorem dL_hangs_14 : decode cL_hangs 14 = .ok (.iconst 1, 1) := by decide +kernel
theorem dL_hangs_15 : decode cL_hangs 15 = .ok (.istore 7, 2) := by decide +kernel
theorem dL_hangs_17 : decode cL_hangs 17 = .ok (.iconst 0, 1) := by decide +kernel
theorem dL_hangs_18 : decode cL_hangs 18 = .ok (.istore 8, 2) := by decide +kernel
theorem dL_hangs_20 : decode cL_hangs 20 = .ok (.iload 8, 2) := by decide +kernel
theorem dL_hangs_22 : decode cL_hangs 22 = .ok (.bipush 12, 2) := by decide +kernel
theorem dL_hangs_24 : decode cL_hangs 24 = .ok (.if_icmp .ge 469, 3) := by decide +kernel
theorem dL_hangs_27 : decode cL_hangs 27 = .ok (.iload 7, 2) := by decide +kernel
theorem dL_hangs_29 : decode cL_hangs 29 = .ok (.ifCond .eq 464, 3) := by decide +kernel
theorem dL_hangs_32 : decode cL_hangs 32 = .ok (.aload_n 0, 1) := by decide +kernel
theorem dL_hangs_33 : decode cL_hangs 33 = .ok (.iload 8, 2) := by decide +kernel
theorem dL_hangs_35 : decode cL_hangs 35 = .ok (.iconst 0, 1) := by decide +kernel
theorem dL_hangs_36 : decode cL_hangs 36 = .ok (.invokevirtual 34, 3) := by decide +kernel
theorem dL_hangs_39 : decode cL_hangs 39 = .ok (.istore 9, 2) := by decide +kernel
theorem dL_hangs_41 : decode cL_hangs 41 = .ok (.aload_n 0, 1) := by decide +kernel
theorem dL_hangs_42 : decode cL_hangs 42 = .ok (.iload 8, 2) := by decide +kernel
theorem dL_hangs_44 : decode cL_hangs 44 = .ok (.iload_n 1, 1) := by decide +kernel
theorem dL_hangs_45 : decode cL_hangs 45 = .ok (.invokevirtual 37, 3) := by decide +kernel
theorem dL_hangs_48 : decode cL_hangs 48 = .ok (.istore 10, 2) := by decide +kernel
theorem dL_hangs_50 : decode cL_hangs 50 = .ok (.iload 9, 2) := by decide +kernel
theorem dL_hangs_52 : decode cL_hangs 52 = .ok (.ifCond .ge 46, 3) := by decide +kernel
theorem dL_hangs_55 : decode cL_hangs 55 = .ok (.iload 9, 2) := by decide +kernel
theorem dL_hangs_57 : decode cL_hangs 57 = .ok (.iconst (-1), 1) := by decide +kernel
theorem dL_hangs_58 : decode cL_hangs 58 = .ok (.if_icmp .ne 34, 3) := by decide +kernel
theorem dL_hangs_61 : decode cL_hangs 61 = .ok (.iload 10, 2) := by decide +kernel
theorem dL_hangs_63 : decode cL_hangs 63 = .ok (.iconst 1, 1) := by decide +kernel
theorem dL_hangs_64 : decode cL_hangs 64 = .ok (.if_icmp .ne 28, 3) := by decide +kernel
theorem dL_hangs_67 : decode cL_hangs 67 = .ok (.aload_n 0, 1) := by decide +kernel
theorem dL_hangs_68 : decode cL_hangs 68 = .ok (.iload 8, 2) := by decide +kernel
theorem dL_hangs_70 : decode cL_hangs 70 = .ok (.iconst 1, 1) := by decide +kernel
theorem dL_hangs_71 : decode cL_hangs 71 = .ok (.invokevirtual 15, 3) := by decide +kernel
theorem dL_hangs_74 : decode cL_hangs 74 = .ok (.iconst (-1), 1) := by decide +kernel
theorem dL_hangs_75 : decode cL_hangs 75 = .ok (.if_icmp .ne 17, 3) := by decide +kernel
theorem dL_hangs_78 : decode cL_hangs 78 = .ok (.aload_n 0, 1) := by decide +kernel
theorem dL_hangs_79 : decode cL_hangs 79 = .ok (.iload 8, 2) := by decide +kernel
theorem dL_hangs_81 : decode cL_hangs 81 = .ok (.invokevirtual 19, 3) := by decide +kernel
theorem dL_hangs_84 : decode cL_hangs 84 = .ok (.iconst (-1), 1) := by decide +kernel
theorem dL_hangs_85 : decode cL_hangs 85 = .ok (.if_icmp .ne 7, 3) := by decide +kernel
theorem dL_hangs_88 : decode cL_hangs 88 = .ok (.iconst 1, 1) := by decide +kernel
theorem dL_hangs_89 : decode cL_hangs 89 = .ok (.goto 4, 3) := by decide +kernel
theorem dL_hangs_92 : decode cL_hangs 92 = .ok (.iconst 0, 1) := by decide +kernel
theorem dL_hangs_93 : decode cL_hangs 93 = .ok (.istore 7, 2) := by decide +kernel
theorem dL_hangs_95 : decode cL_hangs 95 = .ok (.goto 392, 3) := by decide +kernel
theorem dL_hangs_98 : decode cL_hangs 98 = .ok (.aload_n 0, 1) := by decide +kernel
theorem dL_hangs_99 : decode cL_hangs 99 = .ok (.iload 8, 2) := by decide +kernel
theorem dL_hangs_101 : decode cL_hangs 101 = .ok (.iconst 3, 1) := by decide +kernel
theorem dL_hangs_102 : decode cL_hangs 102 = .ok (.invokevirtual 34, 3) := by decide +kernel
theorem dL_hangs_105 : decode cL_hangs 105 = .ok (.istore 11, 2) := by decide +kernel
theorem dL_hangs_107 : decode cL_hangs 107 = .ok (.aload_n 0, 1) := by decide +kernel
theorem dL_hangs_108 : decode cL_hangs 108 = .ok (.iload 8, 2) := by decide +kernel
theorem dL_hangs_110 : decode cL_hangs 110 = .ok (.iconst 3, 1) := by decide +kernel
theorem dL_hangs_111 : decode cL_hangs 111 = .ok (.idiv, 1) := by decide +kernel
theorem dL_hangs_112 : decode cL_hangs 112 = .ok (.iconst 0, 1) := by decide +kernel
theorem dL_hangs_113 : decode cL_hangs 113 = .ok (.invokevirtual 40, 3) := by decide +kernel
theorem dL_hangs_116 : decode cL_hangs 116 = .ok (.aload_n 0, 1) := by decide +kernel
theorem dL_hangs_117 : decode cL_hangs 117 = .ok (.iload 8, 2) := by decide +kernel
theorem dL_hangs_119 : decode cL_hangs 119 = .ok (.bipush 10, 2) := by decide +kernel
theorem dL_hangs_121 : decode cL_hangs 121 = .ok (.invokevirtual 34, 3) := by decide +kernel
theorem dL_hangs_124 : decode cL_hangs 124 = .ok (.if_icmp .le 24, 3) := by decide +kernel
theorem dL_hangs_127 : decode cL_hangs 127 = .ok (.aload_n 0, 1) := by decide +kernel
theorem dL_hangs_128 : decode cL_hangs 128 = .ok (.iload 8, 2) := by decide +kernel
theorem dL_hangs_130 : decode cL_hangs 130 = .ok (.iconst 3, 1) := by decide +kernel
theorem dL_hangs_131 : decode cL_hangs 131 = .ok (.idiv, 1) := by decide +kernel
theorem dL_hangs_132 : decode cL_hangs 132 = .ok (.iconst 0, 1) := by decide +kernel
theorem dL_hangs_133 : decode cL_hangs 133 = .ok (.invokevirtual 40, 3) := by decide +kernel
theorem dL_hangs_136 : decode cL_hangs 136 = .ok (.aload_n 0, 1) := by decide +kernel
theorem dL_hangs_137 : decode cL_hangs 137 = .ok (.iload 8, 2) := by decide +kernel
theorem dL_hangs_139 : decode cL_hangs 139 = .ok (.bipush 10, 2) := by decide +kernel
theorem dL_hangs_141 : decode cL_hangs 141 = .ok (.invokevirtual 34, 3) := by decide +kernel
theorem dL_hangs_144 : decode cL_hangs 144 = .ok (.isub, 1) := by decide +kernel
theorem dL_hangs_145 : decode cL_hangs 145 = .ok (.goto 21, 3) := by decide +kernel
theorem dL_hangs_148 : decode cL_hangs 148 = .ok (.aload_n 0, 1) := by decide +kernel
theorem dL_hangs_149 : decode cL_hangs 149 = .ok (.iload 8, 2) := by decide +kernel
theorem dL_hangs_151 : decode cL_hangs 151 = .ok (.bipush 10, 2) := by decide +kernel
theorem dL_hangs_153 : decode cL_hangs 153 = .ok (.invokevirtual 34, 3) := by decide +kernel
theorem dL_hangs_156 : decode cL_hangs 156 = .ok (.aload_n 0, 1) := by decide +kernel
theorem dL_hangs_157 : decode cL_hangs 157 = .ok (.iload 8, 2) := by decide +kernel
theorem dL_hangs_159 : decode cL_hangs 159 = .ok (.iconst 3, 1) := by decide +kernel
theorem dL_hangs_160 : decode cL_hangs 160 = .ok (.idiv, 1) := by decide +kernel
theorem dL_hangs_161 : decode cL_hangs 161 = .ok (.iconst 0, 1) := by decide +kernel
theorem dL_hangs_162 : decode cL_hangs 162 = .ok (.invokevirtual 40, 3) := by decide +kernel
theorem dL_hangs_165 : decode cL_hangs 165 = .ok (.isub, 1) := by decide +kernel
theorem dL_hangs_166 : decode cL_hangs 166 = .ok (.aload_n 0, 1) := by decide +kernel
theorem dL_hangs_167 : decode cL_hangs 167 = .ok (.iload 8, 2) := by decide +kernel
theorem dL_hangs_169 : decode cL_hangs 169 = .ok (.bipush 10, 2) := by decide +kernel
theorem dL_hangs_171 : decode cL_hangs 171 = .ok (.invokevirtual 34, 3) := by decide +kernel
theorem dL_hangs_174 : decode cL_hangs 174 = .ok (.iconst 2, 1) := by decide +kernel
theorem dL_hangs_175 : decode cL_hangs 175 = .ok (.idiv, 1) := by decide +kernel
theorem dL_hangs_176 : decode cL_hangs 176 = .ok (.if_icmp .le 7, 3) := by decide +kernel
theorem dL_hangs_179 : decode cL_hangs 179 = .ok (.iconst 1, 1) := by decide +kernel
theorem dL_hangs_180 : decode cL_hangs 180 = .ok (.goto 4, 3) := by decide +kernel
theorem dL_hangs_183 : decode cL_hangs 183 = .ok (.iconst 0, 1) := by decide +kernel
theorem dL_hangs_184 : decode cL_hangs 184 = .ok (.istore 12, 2) := by decide +kernel
theorem dL_hangs_186 : decode cL_hangs 186 = .ok (.aload_n 0, 1) := by decide +kernel
theorem dL_hangs_187 : decode cL_hangs 187 = .ok (.iload 8, 2) := by decide +kernel
theorem dL_hangs_189 : decode cL_hangs 189 = .ok (.iconst 5, 1) := by decide +kernel
theorem dL_hangs_190 : decode cL_hangs 190 = .ok (.invokevirtual 34, 3) := by decide +kernel
theorem dL_hangs_193 : decode cL_hangs 193 = .ok (.aload_n 0, 1) := by decide +kernel
theorem dL_hangs_194 : decode cL_hangs 194 = .ok (.bipush 12, 2) := by decide +kernel
theorem dL_hangs_196 : decode cL_hangs 196 = .ok (.invokevirtual 43, 3) := by decide +kernel
theorem dL_hangs_199 : decode cL_hangs 199 = .ok (.if_icmp .le 7, 3) := by decide +kernel
theorem dL_hangs_202 : decode cL_hangs 202 = .ok (.iconst 1, 1) := by decide +kernel
theorem dL_hangs_203 : decode cL_hangs 203 = .ok (.goto 4, 3) := by decide +kernel
theorem dL_hangs_206 : decode cL_hangs 206 = .ok (.iconst 0, 1) := by decide +kernel
theorem dL_hangs_207 : decode cL_hangs 207 = .ok (.istore 13, 2) := by decide +kernel
theorem dL_hangs_209 : decode cL_hangs 209 = .ok (.iinc 2 1, 3) := by decide +kernel
theorem dL_hangs_212 : decode cL_hangs 212 = .ok (.iload_n 3, 1) := by decide +kernel
theorem dL_hangs_213 : decode cL_hangs 213 = .ok (.aload_n 0, 1) := by decide +kernel
theorem dL_hangs_214 : decode cL_hangs 214 = .ok (.iload 8, 2) := by decide +kernel
theorem dL_hangs_216 : decode cL_hangs 216 = .ok (.bipush 7, 2) := by decide +kernel
theorem dL_hangs_218 : decode cL_hangs 218 = .ok (.invokevirtual 34, 3) := by decide +kernel
theorem dL_hangs_221 : decode cL_hangs 221 = .ok (.iadd, 1) := by decide +kernel
theorem dL_hangs_222 : decode cL_hangs 222 = .ok (.istore_n 3, 1) := by decide +kernel
theorem dL_hangs_223 : decode cL_hangs 223 = .ok (.iload 4, 2) := by decide +kernel
theorem dL_hangs_225 : decode cL_hangs 225 = .ok (.aload_n 0, 1) := by decide +kernel
theorem dL_hangs_226 : decode cL_hangs 226 = .ok (.iload 8, 2) := by decide +kernel
theorem dL_hangs_228 : decode cL_hangs 228 = .ok (.bipush 6, 2) := by decide +kernel
theorem dL_hangs_230 : decode cL_hangs 230 = .ok (.invokevirtual 34, 3) := by decide +kernel
theorem dL_hangs_233 : decode cL_hangs 233 = .ok (.iadd, 1) := by decide +kernel
theorem dL_hangs_234 : decode cL_hangs 234 = .ok (.istore 4, 2) := by decide +kernel
theorem dL_hangs_236 : decode cL_hangs 236 = .ok (.iload 9, 2) := by decide +kernel
theorem dL_hangs_238 : decode cL_hangs 238 = .ok (.iconst 3, 1) := by decide +kernel
theorem dL_hangs_239 : decode cL_hangs 239 = .ok (.if_icmp .ge 207, 3) := by decide +kernel
theorem dL_hangs_242 : decode cL_hangs 242 = .ok (.aload_n 0, 1) := by decide +kernel
theorem dL_hangs_243 : decode cL_hangs 243 = .ok (.iload 8, 2) := by decide +kernel
theorem dL_hangs_245 : decode cL_hangs 245 = .ok (.iconst 1, 1) := by decide +kernel
theorem dL_hangs_246 : decode cL_hangs 246 = .ok (.invokevirtual 34, 3) := by decide +kernel
theorem dL_hangs_249 : decode cL_hangs 249 = .ok (.aload_n 0, 1) := by decide +kernel
theorem dL_hangs_250 : decode cL_hangs 250 = .ok (.iload 8, 2) := by decide +kernel
theorem dL_hangs_252 : decode cL_hangs 252 = .ok (.iconst 2, 1) := by decide +kernel
theorem dL_hangs_253 : decode cL_hangs 253 = .ok (.invokevirtual 34, 3) := by decide +kernel
theorem dL_hangs_256 : decode cL_hangs 256 = .ok (.if_icmp .gt 190, 3) := by decide +kernel
theorem dL_hangs_259 : decode cL_hangs 259 = .ok (.aload_n 0, 1) := by decide +kernel
theorem dL_hangs_260 : decode cL_hangs 260 = .ok (.iload 8, 2) := by decide +kernel
theorem dL_hangs_262 : decode cL_hangs 262 = .ok (.bipush 6, 2) := by decide +kernel
theorem dL_hangs_264 : decode cL_hangs 264 = .ok (.invokevirtual 34, 3) := by decide +kernel
theorem dL_hangs_267 : decode cL_hangs 267 = .ok (.iload 12, 2) := by decide +kernel
theorem dL_hangs_269 : decode cL_hangs 269 = .ok (.ifCond .ne 8, 3) := by decide +kernel
theorem dL_hangs_272 : decode cL_hangs 272 = .ok (.iload 13, 2) := by decide +kernel
theorem dL_hangs_274 : decode cL_hangs 274 = .ok (.ifCond .eq 7, 3) := by decide +kernel
theorem dL_hangs_277 : decode cL_hangs 277 = .ok (.iconst 1, 1) := by decide +kernel
theorem dL_hangs_278 : decode cL_hangs 278 = .ok (.goto 4, 3) := by decide +kernel
theorem dL_hangs_281 : decode cL_hangs 281 = .ok (.iconst 0, 1) := by decide +kernel
theorem dL_hangs_282 : decode cL_hangs 282 = .ok (.if_icmp .ne 164, 3) := by decide +kernel
theorem dL_hangs_285 : decode cL_hangs 285 = .ok (.iload 10, 2) := by decide +kernel
theorem dL_hangs_287 : decode cL_hangs 287 = .ok (.iload_n 1, 1) := by decide +kernel
theorem dL_hangs_288 : decode cL_hangs 288 = .ok (.aload_n 0, 1) := by decide +kernel
theorem dL_hangs_289 : decode cL_hangs 289 = .ok (.iload 8, 2) := by decide +kernel
theorem dL_hangs_291 : decode cL_hangs 291 = .ok (.iconst 1, 1) := by decide +kernel
theorem dL_hangs_292 : decode cL_hangs 292 = .ok (.invokevirtual 34, 3) := by decide +kernel
theorem dL_hangs_295 : decode cL_hangs 295 = .ok (.if_icmp .ge 7, 3) := by decide +kernel
theorem dL_hangs_298 : decode cL_hangs 298 = .ok (.iconst 2, 1) := by decide +kernel
theorem dL_hangs_299 : decode cL_hangs 299 = .ok (.goto 37, 3) := by decide +kernel
theorem dL_hangs_302 : decode cL_hangs 302 = .ok (.iload_n 1, 1) := by decide +kernel
theorem dL_hangs_303 : decode cL_hangs 303 = .ok (.aload_n 0, 1) := by decide +kernel
theorem dL_hangs_304 : decode cL_hangs 304 = .ok (.iload 8, 2) := by decide +kernel
theorem dL_hangs_306 : decode cL_hangs 306 = .ok (.iconst 2, 1) := by decide +kernel
theorem dL_hangs_307 : decode cL_hangs 307 = .ok (.invokevirtual 34, 3) := by decide +kernel
theorem dL_hangs_310 : decode cL_hangs 310 = .ok (.if_icmp .le 7, 3) := by decide +kernel
theorem dL_hangs_313 : decode cL_hangs 313 = .ok (.iconst 3, 1) := by decide +kernel
theorem dL_hangs_314 : decode cL_hangs 314 = .ok (.goto 22, 3) := by decide +kernel
theorem dL_hangs_317 : decode cL_hangs 317 = .ok (.iload 12, 2) := by decide +kernel
theorem dL_hangs_319 : decode cL_hangs 319 = .ok (.ifCond .eq 7, 3) := by decide +kernel
theorem dL_hangs_322 : decode cL_hangs 322 = .ok (.iconst 4, 1) := by decide +kernel
theorem dL_hangs_323 : decode cL_hangs 323 = .ok (.goto 13, 3) := by decide +kernel
theorem dL_hangs_326 : decode cL_hangs 326 = .ok (.iload 13, 2) := by decide +kernel
theorem dL_hangs_328 : decode cL_hangs 328 = .ok (.ifCond .eq 7, 3) := by decide +kernel
theorem dL_hangs_331 : decode cL_hangs 331 = .ok (.iconst 5, 1) := by decide +kernel
theorem dL_hangs_332 : decode cL_hangs 332 = .ok (.goto 4, 3) := by decide +kernel
theorem dL_hangs_335 : decode cL_hangs 335 = .ok (.iconst 0, 1) := by decide +kernel
theorem dL_hangs_336 : decode cL_hangs 336 = .ok (.if_icmp .ne 110, 3) := by decide +kernel
theorem dL_hangs_339 : decode cL_hangs 339 = .ok (.aload_n 0, 1) := by decide +kernel
theorem dL_hangs_340 : decode cL_hangs 340 = .ok (.iload 8, 2) := by decide +kernel
theorem dL_hangs_342 : decode cL_hangs 342 = .ok (.bipush 9, 2) := by decide +kernel
theorem dL_hangs_344 : decode cL_hangs 344 = .ok (.invokevirtual 34, 3) := by decide +kernel
theorem dL_hangs_347 : decode cL_hangs 347 = .ok (.aload_n 0, 1) := by decide +kernel
theorem dL_hangs_348 : decode cL_hangs 348 = .ok (.iload 8, 2) := by decide +kernel
theorem dL_hangs_350 : decode cL_hangs 350 = .ok (.iconst 5, 1) := by decide +kernel
theorem dL_hangs_351 : decode cL_hangs 351 = .ok (.invokevirtual 34, 3) := by decide +kernel
theorem dL_hangs_354 : decode cL_hangs 354 = .ok (.if_icmp .gt 92, 3) := by decide +kernel
theorem dL_hangs_357 : decode cL_hangs 357 = .ok (.aload_n 0, 1) := by decide +kernel
theorem dL_hangs_358 : decode cL_hangs 358 = .ok (.iload 8, 2) := by decide +kernel
theorem dL_hangs_360 : decode cL_hangs 360 = .ok (.bipush 9, 2) := by decide +kernel
theorem dL_hangs_362 : decode cL_hangs 362 = .ok (.invokevirtual 34, 3) := by decide +kernel
theorem dL_hangs_365 : decode cL_hangs 365 = .ok (.ifCond .lt 81, 3) := by decide +kernel
theorem dL_hangs_368 : decode cL_hangs 368 = .ok (.aload_n 0, 1) := by decide +kernel
theorem dL_hangs_369 : decode cL_hangs 369 = .ok (.iload 8, 2) := by decide +kernel
theorem dL_hangs_371 : decode cL_hangs 371 = .ok (.bipush 8, 2) := by decide +kernel
theorem dL_hangs_373 : decode cL_hangs 373 = .ok (.invokevirtual 34, 3) := by decide +kernel
theorem dL_hangs_376 : decode cL_hangs 376 = .ok (.aload_n 0, 1) := by decide +kernel
theorem dL_hangs_377 : decode cL_hangs 377 = .ok (.iload 8, 2) := by decide +kernel
theorem dL_hangs_379 : decode cL_hangs 379 = .ok (.iconst 5, 1) := by decide +kernel
theorem dL_hangs_380 : decode cL_hangs 380 = .ok (.invokevirtual 34, 3) := by decide +kernel
theorem dL_hangs_383 : decode cL_hangs 383 = .ok (.if_icmp .gt 63, 3) := by decide +kernel
theorem dL_hangs_386 : decode cL_hangs 386 = .ok (.iload 11, 2) := by decide +kernel
theorem dL_hangs_388 : decode cL_hangs 388 = .ok (.sipush 9999, 3) := by decide +kernel
theorem dL_hangs_391 : decode cL_hangs 391 = .ok (.if_icmp .gt 55, 3) := by decide +kernel
theorem dL_hangs_394 : decode cL_hangs 394 = .ok (.aload_n 0, 1) := by decide +kernel
theorem dL_hangs_395 : decode cL_hangs 395 = .ok (.iload 8, 2) := by decide +kernel
theorem dL_hangs_397 : decode cL_hangs 397 = .ok (.iconst 3, 1) := by decide +kernel
theorem dL_hangs_398 : decode cL_hangs 398 = .ok (.idiv, 1) := by decide +kernel
theorem dL_hangs_399 : decode cL_hangs 399 = .ok (.iconst 0, 1) := by decide +kernel
theorem dL_hangs_400 : decode cL_hangs 400 = .ok (.invokevirtual 40, 3) := by decide +kernel
theorem dL_hangs_403 : decode cL_hangs 403 = .ok (.aload_n 0, 1) := by decide +kernel
theorem dL_hangs_404 : decode cL_hangs 404 = .ok (.iload 8, 2) := by decide +kernel
theorem dL_hangs_406 : decode cL_hangs 406 = .ok (.bipush 10, 2) := by decide +kernel
theorem dL_hangs_408 : decode cL_hangs 408 = .ok (.invokevirtual 34, 3) := by decide +kernel
theorem dL_hangs_411 : decode cL_hangs 411 = .ok (.if_icmp .ne 31, 3) := by decide +kernel
theorem dL_hangs_414 : decode cL_hangs 414 = .ok (.iload 8, 2) := by decide +kernel
theorem dL_hangs_416 : decode cL_hangs 416 = .ok (.iconst 3, 1) := by decide +kernel
theorem dL_hangs_417 : decode cL_hangs 417 = .ok (.irem, 1) := by decide +kernel
theorem dL_hangs_418 : decode cL_hangs 418 = .ok (.iconst 1, 1) := by decide +kernel
theorem dL_hangs_419 : decode cL_hangs 419 = .ok (.if_icmp .eq 23, 3) := by decide +kernel
theorem dL_hangs_422 : decode cL_hangs 422 = .ok (.aload_n 0, 1) := by decide +kernel
theorem dL_hangs_423 : decode cL_hangs 423 = .ok (.iload 8, 2) := by decide +kernel
theorem dL_hangs_425 : decode cL_hangs 425 = .ok (.iconst 4, 1) := by decide +kernel
theorem dL_hangs_426 : decode cL_hangs 426 = .ok (.invokevirtual 34, 3) := by decide +kernel
theorem dL_hangs_429 : decode cL_hangs 429 = .ok (.aload_n 0, 1) := by decide +kernel
theorem dL_hangs_430 : decode cL_hangs 430 = .ok (.iload 8, 2) := by decide +kernel
theorem dL_hangs_432 : decode cL_hangs 432 = .ok (.iload 9, 2) := by decide +kernel
theorem dL_hangs_434 : decode cL_hangs 434 = .ok (.iload 11, 2) := by decide +kernel
theorem dL_hangs_436 : decode cL_hangs 436 = .ok (.invokevirtual 46, 3) := by decide +kernel
theorem dL_hangs_439 : decode cL_hangs 439 = .ok (.if_icmp .ne 7, 3) := by decide +kernel
theorem dL_hangs_442 : decode cL_hangs 442 = .ok (.iconst 1, 1) := by decide +kernel
theorem dL_hangs_443 : decode cL_hangs 443 = .ok (.goto 4, 3) := by decide +kernel
theorem dL_hangs_446 : decode cL_hangs 446 = .ok (.iconst 0, 1) := by decide +kernel
theorem dL_hangs_447 : decode cL_hangs 447 = .ok (.istore 7, 2) := by decide +kernel
theorem dL_hangs_449 : decode cL_hangs 449 = .ok (.aload_n 0, 1) := by decide +kernel
theorem dL_hangs_450 : decode cL_hangs 450 = .ok (.iload 8, 2) := by decide +kernel
theorem dL_hangs_452 : decode cL_hangs 452 = .ok (.bipush 7, 2) := by decide +kernel
theorem dL_hangs_454 : decode cL_hangs 454 = .ok (.invokevirtual 34, 3) := by decide +kernel
theorem dL_hangs_457 : decode cL_hangs 457 = .ok (.ifCond .ne 30, 3) := by decide +kernel
theorem dL_hangs_460 : decode cL_hangs 460 = .ok (.aload_n 0, 1) := by decide +kernel
theorem dL_hangs_461 : decode cL_hangs 461 = .ok (.iload 8, 2) := by decide +kernel
theorem dL_hangs_463 : decode cL_hangs 463 = .ok (.bipush 9, 2) := by decide +kernel
theorem dL_hangs_465 : decode cL_hangs 465 = .ok (.invokevirtual 34, 3) := by decide +kernel
theorem dL_hangs_468 : decode cL_hangs 468 = .ok (.iload 6, 2) := by decide +kernel
theorem dL_hangs_470 : decode cL_hangs 470 = .ok (.if_icmp .le 17, 3) := by decide +kernel
theorem dL_hangs_473 : decode cL_hangs 473 = .ok (.iload 8, 2) := by decide +kernel
theorem dL_hangs_475 : decode cL_hangs 475 = .ok (.istore 5, 2) := by decide +kernel
theorem dL_hangs_477 : decode cL_hangs 477 = .ok (.aload_n 0, 1) := by decide +kernel
theorem dL_hangs_478 : decode cL_hangs 478 = .ok (.iload 8, 2) := by decide +kernel
theorem dL_hangs_480 : decode cL_hangs 480 = .ok (.bipush 9, 2) := by decide +kernel
theorem dL_hangs_482 : decode cL_hangs 482 = .ok (.invokevirtual 34, 3) := by decide +kernel
theorem dL_hangs_485 : decode cL_hangs 485 = .ok (.istore 6, 2) := by decide +kernel
theorem dL_hangs_487 : decode cL_hangs 487 = .ok (.iinc 8 1, 3) := by decide +kernel
theorem dL_hangs_490 : decode cL_hangs 490 = .ok (.goto (-470), 3) := by decide +kernel
theorem dL_hangs_493 : decode cL_hangs 493 = .ok (.iconst 0, 1) := by decide +kernel
theorem dL_hangs_494 : decode cL_hangs 494 = .ok (.istore 8, 2) := by decide +kernel
theorem dL_hangs_496 : decode cL_hangs 496 = .ok (.iconst 0, 1) := by decide +kernel
theorem dL_hangs_497 : decode cL_hangs 497 = .ok (.istore 9, 2) := by decide +kernel
theorem dL_hangs_499 : decode cL_hangs 499 = .ok (.iconst 0, 1) := by decide +kernel
theorem dL_hangs_500 : decode cL_hangs 500 = .ok (.istore 10, 2) := by decide +kernel
theorem dL_hangs_502 : decode cL_hangs 502 = .ok (.iconst 0, 1) := by decide +kernel
theorem dL_hangs_503 : decode cL_hangs 503 = .ok (.istore 11, 2) := by decide +kernel
theorem dL_hangs_505 : decode cL_hangs 505 = .ok (.iload 11, 2) := by decide +kernel
theorem dL_hangs_507 : decode cL_hangs 507 = .ok (.iconst 4, 1) := by decide +kernel
theorem dL_hangs_508 : decode cL_hangs 508 = .ok (.if_icmp .ge 50, 3) := by decide +kernel
theorem dL_hangs_511 : decode cL_hangs 511 = .ok (.iload 7, 2) := by decide +kernel
theorem dL_hangs_513 : decode cL_hangs 513 = .ok (.ifCond .eq 45, 3) := by decide +kernel
theorem dL_hangs_516 : decode cL_hangs 516 = .ok (.iload 8, 2) := by decide +kernel
theorem dL_hangs_518 : decode cL_hangs 518 = .ok (.aload_n 0, 1) := by decide +kernel
theorem dL_hangs_519 : decode cL_hangs 519 = .ok (.iload 11, 2) := by decide +kernel
theorem dL_hangs_521 : decode cL_hangs 521 = .ok (.iconst 3, 1) := by decide +kernel
theorem dL_hangs_522 : decode cL_hangs 522 = .ok (.invokevirtual 40, 3) := by decide +kernel
theorem dL_hangs_525 : decode cL_hangs 525 = .ok (.iadd, 1) := by decide +kernel
theorem dL_hangs_526 : decode cL_hangs 526 = .ok (.istore 8, 2) := by decide +kernel
theorem dL_hangs_528 : decode cL_hangs 528 = .ok (.iload 9, 2) := by decide +kernel
theorem dL_hangs_530 : decode cL_hangs 530 = .ok (.aload_n 0, 1) := by decide +kernel
theorem dL_hangs_531 : decode cL_hangs 531 = .ok (.iload 11, 2) := by decide +kernel
theorem dL_hangs_533 : decode cL_hangs 533 = .ok (.iconst 4, 1) := by decide +kernel
theorem dL_hangs_534 : decode cL_hangs 534 = .ok (.invokevirtual 40, 3) := by decide +kernel
theorem dL_hangs_537 : decode cL_hangs 537 = .ok (.iadd, 1) := by decide +kernel
theorem dL_hangs_538 : decode cL_hangs 538 = .ok (.istore 9, 2) := by decide +kernel
theorem dL_hangs_540 : decode cL_hangs 540 = .ok (.iload 10, 2) := by decide +kernel
theorem dL_hangs_542 : decode cL_hangs 542 = .ok (.aload_n 0, 1) := by decide +kernel
theorem dL_hangs_543 : decode cL_hangs 543 = .ok (.iload 11, 2) := by decide +kernel
theorem dL_hangs_545 : decode cL_hangs 545 = .ok (.iconst 2, 1) := by decide +kernel
theorem dL_hangs_546 : decode cL_hangs 546 = .ok (.invokevirtual 40, 3) := by decide +kernel
theorem dL_hangs_549 : decode cL_hangs 549 = .ok (.iadd, 1) := by decide +kernel
theorem dL_hangs_550 : decode cL_hangs 550 = .ok (.istore 10, 2) := by decide +kernel
theorem dL_hangs_552 : decode cL_hangs 552 = .ok (.iinc 11 1, 3) := by decide +kernel
theorem dL_hangs_555 : decode cL_hangs 555 = .ok (.goto (-50), 3) := by decide +kernel
theorem dL_hangs_558 : decode cL_hangs 558 = .ok (.iload 7, 2) := by decide +kernel
theorem dL_hangs_560 : decode cL_hangs 560 = .ok (.ifCond .eq 112, 3) := by decide +kernel
theorem dL_hangs_563 : decode cL_hangs 563 = .ok (.iload_n 2, 1) := by decide +kernel
theorem dL_hangs_564 : decode cL_hangs 564 = .ok (.aload_n 0, 1) := by decide +kernel
theorem dL_hangs_565 : decode cL_hangs 565 = .ok (.iconst 0, 1) := by decide +kernel
theorem dL_hangs_566 : decode cL_hangs 566 = .ok (.invokevirtual 43, 3) := by decide +kernel
theorem dL_hangs_569 : decode cL_hangs 569 = .ok (.if_icmp .ne 103, 3) := by decide +kernel
theorem dL_hangs_572 : decode cL_hangs 572 = .ok (.iload 10, 2) := by decide +kernel
theorem dL_hangs_574 : decode cL_hangs 574 = .ok (.iload_n 2, 1) := by decide +kernel
theorem dL_hangs_575 : decode cL_hangs 575 = .ok (.if_icmp .ne 97, 3) := by decide +kernel
theorem dL_hangs_578 : decode cL_hangs 578 = .ok (.iload_n 3, 1) := by decide +kernel
theorem dL_hangs_579 : decode cL_hangs 579 = .ok (.aload_n 0, 1) := by decide +kernel
theorem dL_hangs_580 : decode cL_hangs 580 = .ok (.iconst 1, 1) := by decide +kernel
theorem dL_hangs_581 : decode cL_hangs 581 = .ok (.invokevirtual 43, 3) := by decide +kernel
theorem dL_hangs_584 : decode cL_hangs 584 = .ok (.if_icmp .ne 88, 3) := by decide +kernel
theorem dL_hangs_587 : decode cL_hangs 587 = .ok (.iload 4, 2) := by decide +kernel
theorem dL_hangs_589 : decode cL_hangs 589 = .ok (.aload_n 0, 1) := by decide +kernel
theorem dL_hangs_590 : decode cL_hangs 590 = .ok (.iconst 2, 1) := by decide +kernel
theorem dL_hangs_591 : decode cL_hangs 591 = .ok (.invokevirtual 43, 3) := by decide +kernel
theorem dL_hangs_594 : decode cL_hangs 594 = .ok (.if_icmp .ne 78, 3) := by decide +kernel
theorem dL_hangs_597 : decode cL_hangs 597 = .ok (.iload 5, 2) := by decide +kernel
theorem dL_hangs_599 : decode cL_hangs 599 = .ok (.aload_n 0, 1) := by decide +kernel
theorem dL_hangs_600 : decode cL_hangs 600 = .ok (.invokevirtual 50, 3) := by decide +kernel
theorem dL_hangs_603 : decode cL_hangs 603 = .ok (.if_icmp .ne 69, 3) := by decide +kernel
theorem dL_hangs_606 : decode cL_hangs 606 = .ok (.iload 8, 2) := by decide +kernel
theorem dL_hangs_608 : decode cL_hangs 608 = .ok (.aload_n 0, 1) := by decide +kernel
theorem dL_hangs_609 : decode cL_hangs 609 = .ok (.iconst 3, 1) := by decide +kernel
theorem dL_hangs_610 : decode cL_hangs 610 = .ok (.invokevirtual 43, 3) := by decide +kernel
theorem dL_hangs_613 : decode cL_hangs 613 = .ok (.if_icmp .ne 59, 3) := by decide +kernel
theorem dL_hangs_616 : decode cL_hangs 616 = .ok (.iload 9, 2) := by decide +kernel
theorem dL_hangs_618 : decode cL_hangs 618 = .ok (.aload_n 0, 1) := by decide +kernel
theorem dL_hangs_619 : decode cL_hangs 619 = .ok (.bipush 6, 2) := by decide +kernel
theorem dL_hangs_621 : decode cL_hangs 621 = .ok (.invokevirtual 43, 3) := by decide +kernel
theorem dL_hangs_624 : decode cL_hangs 624 = .ok (.if_icmp .ne 48, 3) := by decide +kernel
theorem dL_hangs_627 : decode cL_hangs 627 = .ok (.aload_n 0, 1) := by decide +kernel
theorem dL_hangs_628 : decode cL_hangs 628 = .ok (.iconst 4, 1) := by decide +kernel
theorem dL_hangs_629 : decode cL_hangs 629 = .ok (.invokevirtual 43, 3) := by decide +kernel
theorem dL_hangs_632 : decode cL_hangs 632 = .ok (.aload_n 0, 1) := by decide +kernel
theorem dL_hangs_633 : decode cL_hangs 633 = .ok (.iconst 5, 1) := by decide +kernel
theorem dL_hangs_634 : decode cL_hangs 634 = .ok (.invokevirtual 43, 3) := by decide +kernel
theorem dL_hangs_637 : decode cL_hangs 637 = .ok (.iadd, 1) := by decide +kernel
theorem dL_hangs_638 : decode cL_hangs 638 = .ok (.iload 8, 2) := by decide +kernel
theorem dL_hangs_640 : decode cL_hangs 640 = .ok (.if_icmp .ne 32, 3) := by decide +kernel
theorem dL_hangs_643 : decode cL_hangs 643 = .ok (.aload_n 0, 1) := by decide +kernel
theorem dL_hangs_644 : decode cL_hangs 644 = .ok (.bipush 7, 2) := by decide +kernel
theorem dL_hangs_646 : decode cL_hangs 646 = .ok (.invokevirtual 43, 3) := by decide +kernel
theorem dL_hangs_649 : decode cL_hangs 649 = .ok (.iload 9, 2) := by decide +kernel
theorem dL_hangs_651 : decode cL_hangs 651 = .ok (.if_icmp .gt 21, 3) := by decide +kernel
theorem dL_hangs_654 : decode cL_hangs 654 = .ok (.aload_n 0, 1) := by decide +kernel
theorem dL_hangs_655 : decode cL_hangs 655 = .ok (.bipush 8, 2) := by decide +kernel
theorem dL_hangs_657 : decode cL_hangs 657 = .ok (.invokevirtual 43, 3) := by decide +kernel
theorem dL_hangs_660 : decode cL_hangs 660 = .ok (.aload_n 0, 1) := by decide +kernel
theorem dL_hangs_661 : decode cL_hangs 661 = .ok (.iconst 4, 1) := by decide +kernel
theorem dL_hangs_662 : decode cL_hangs 662 = .ok (.invokevirtual 43, 3) := by decide +kernel
theorem dL_hangs_665 : decode cL_hangs 665 = .ok (.if_icmp .gt 7, 3) := by decide +kernel
theorem dL_hangs_668 : decode cL_hangs 668 = .ok (.iconst 1, 1) := by decide +kernel
theorem dL_hangs_669 : decode cL_hangs 669 = .ok (.goto 4, 3) := by decide +kernel
theorem dL_hangs_672 : decode cL_hangs 672 = .ok (.iconst 0, 1) := by decide +kernel
theorem dL_hangs_673 : decode cL_hangs 673 = .ok (.ireturn, 1) := by decide +kernel
theorem dL_ways_0 : decode cL_ways 0 = .ok (.aload_n 0, 1) := by decide +kernel
theorem dL_ways_1 : decode cL_ways 1 = .ok (.iload_n 1, 1) := by decide +kernel
theorem dL_ways_2 : decode cL_ways 2 = .ok (.iload_n 2, 1) := by decide +kernel
theorem dL_ways_3 : decode cL_ways 3 = .ok (.invokevirtual 54, 3) := by decide +kernel
theorem dL_ways_6 : decode cL_ways 6 = .ok (.istore_n 3, 1) := by decide +kernel
theorem dL_ways_7 : decode cL_ways 7 = .ok (.aload_n 0, 1) := by decide +kernel
theorem dL_ways_8 : decode cL_ways 8 = .ok (.iload_n 1, 1) := by decide +kernel
theorem dL_ways_9 : decode cL_ways 9 = .ok (.iload_n 3, 1) := by decide +kernel
theorem dL_ways_10 : decode cL_ways 10 = .ok (.iload_n 2, 1) := by decide +kernel
theorem dL_ways_11 : decode cL_ways 11 = .ok (.invokevirtual 46, 3) := by decide +kernel
theorem dL_ways_14 : decode cL_ways 14 = .ok (.istore 4, 2) := by decide +kernel
theorem dL_ways_16 : decode cL_ways 16 = .ok (.iload_n 3, 1) := by decide +kernel
theorem dL_ways_17 : decode cL_ways 17 = .ok (.ifCond .lt 12, 3) := by decide +kernel
theorem dL_ways_20 : decode cL_ways 20 = .ok (.iload_n 3, 1) := by decide +kernel
theorem dL_ways_21 : decode cL_ways 21 = .ok (.iconst 3, 1) := by decide +kernel
theorem dL_ways_22 : decode cL_ways 22 = .ok (.if_icmp .ge 7, 3) := by decide +kernel
theorem dL_ways_25 : decode cL_ways 25 = .ok (.iconst 1, 1) := by decide +kernel
theorem dL_ways_26 : decode cL_ways 26 = .ok (.goto 4, 3) := by decide +kernel
theorem dL_ways_29 : decode cL_ways 29 = .ok (.iconst 0, 1) := by decide +kernel
theorem dL_ways_30 : decode cL_ways 30 = .ok (.istore 5, 2) := by decide +kernel
theorem dL_ways_32 : decode cL_ways 32 = .ok (.iconst 0, 1) := by decide +kernel
theorem dL_ways_33 : decode cL_ways 33 = .ok (.istore 6, 2) := by decide +kernel
theorem dL_ways_35 : decode cL_ways 35 = .ok (.iload 6, 2) := by decide +kernel
theorem dL_ways_37 : decode cL_ways 37 = .ok (.iconst 3, 1) := by decide +kernel
theorem dL_ways_38 : decode cL_ways 38 = .ok (.if_icmp .ge 59, 3) := by decide +kernel
theorem dL_ways_41 : decode cL_ways 41 = .ok (.iload 5, 2) := by decide +kernel
theorem dL_ways_43 : decode cL_ways 43 = .ok (.ifCond .eq 54, 3) := by decide +kernel
theorem dL_ways_46 : decode cL_ways 46 = .ok (.aload_n 0, 1) := by decide +kernel
theorem dL_ways_47 : decode cL_ways 47 = .ok (.iload_n 1, 1) := by decide +kernel
theorem dL_ways_48 : decode cL_ways 48 = .ok (.iload 6, 2) := by decide +kernel
theorem dL_ways_50 : decode cL_ways 50 = .ok (.iload_n 2, 1) := by decide +kernel
theorem dL_ways_51 : decode cL_ways 51 = .ok (.invokevirtual 46, 3) := by decide +kernel
theorem dL_ways_54 : decode cL_ways 54 = .ok (.istore 7, 2) := by decide +kernel
theorem dL_ways_56 : decode cL_ways 56 = .ok (.iload 6, 2) := by decide +kernel
theorem dL_ways_58 : decode cL_ways 58 = .ok (.iload_n 3, 1) := by decide +kernel
theorem dL_ways_59 : decode cL_ways 59 = .ok (.if_icmp .ge 18, 3) := by decide +kernel
theorem dL_ways_62 : decode cL_ways 62 = .ok (.iload 7, 2) := by decide +kernel
theorem dL_ways_64 : decode cL_ways 64 = .ok (.iload 4, 2) := by decide +kernel
theorem dL_ways_66 : decode cL_ways 66 = .ok (.if_icmp .le 7, 3) := by decide +kernel
theorem dL_ways_69 : decode cL_ways 69 = .ok (.iconst 1, 1) := by decide +kernel
theorem dL_ways_70 : decode cL_ways 70 = .ok (.goto 19, 3) := by decide +kernel
theorem dL_ways_73 : decode cL_ways 73 = .ok (.iconst 0, 1) := by decide +kernel
theorem dL_ways_74 : decode cL_ways 74 = .ok (.goto 15, 3) := by decide +kernel
theorem dL_ways_77 : decode cL_ways 77 = .ok (.iload 7, 2) := by decide +kernel
theorem dL_ways_79 : decode cL_ways 79 = .ok (.iload 4, 2) := by decide +kernel
theorem dL_ways_81 : decode cL_ways 81 = .ok (.if_icmp .lt 7, 3) := by decide +kernel
theorem dL_ways_84 : decode cL_ways 84 = .ok (.iconst 1, 1) := by decide +kernel
theorem dL_ways_85 : decode cL_ways 85 = .ok (.goto 4, 3) := by decide +kernel
theorem dL_ways_88 : decode cL_ways 88 = .ok (.iconst 0, 1) := by decide +kernel
theorem dL_ways_89 : decode cL_ways 89 = .ok (.istore 5, 2) := by decide +kernel
theorem dL_ways_91 : decode cL_ways 91 = .ok (.iinc 6 1, 3) := by decide +kernel
theorem dL_ways_94 : decode cL_ways 94 = .ok (.goto (-59), 3) := by decide +kernel
theorem dL_ways_97 : decode cL_ways 97 = .ok (.iload 5, 2) := by decide +kernel
theorem dL_ways_99 : decode cL_ways 99 = .ok (.ifCond .eq 45, 3) := by decide +kernel
theorem dL_ways_102 : decode cL_ways 102 = .ok (.aload_n 0, 1) := by decide +kernel
theorem dL_ways_103 : decode cL_ways 103 = .ok (.iload_n 1, 1) := by decide +kernel
theorem dL_ways_104 : decode cL_ways 104 = .ok (.iconst 0, 1) := by decide +kernel
theorem dL_ways_105 : decode cL_ways 105 = .ok (.invokevirtual 57, 3) := by decide +kernel
theorem dL_ways_108 : decode cL_ways 108 = .ok (.aload_n 0, 1) := by decide +kernel
theorem dL_ways_109 : decode cL_ways 109 = .ok (.iload_n 1, 1) := by decide +kernel
theorem dL_ways_110 : decode cL_ways 110 = .ok (.iconst 1, 1) := by decide +kernel
theorem dL_ways_111 : decode cL_ways 111 = .ok (.invokevirtual 57, 3) := by decide +kernel
theorem dL_ways_114 : decode cL_ways 114 = .ok (.iadd, 1) := by decide +kernel
theorem dL_ways_115 : decode cL_ways 115 = .ok (.aload_n 0, 1) := by decide +kernel
theorem dL_ways_116 : decode cL_ways 116 = .ok (.iload_n 1, 1) := by decide +kernel
theorem dL_ways_117 : decode cL_ways 117 = .ok (.iconst 2, 1) := by decide +kernel
theorem dL_ways_118 : decode cL_ways 118 = .ok (.invokevirtual 57, 3) := by decide +kernel
theorem dL_ways_121 : decode cL_ways 121 = .ok (.iadd, 1) := by decide +kernel
theorem dL_ways_122 : decode cL_ways 122 = .ok (.iload_n 1, 1) := by decide +kernel
theorem dL_ways_123 : decode cL_ways 123 = .ok (.iconst 3, 1) := by decide +kernel
theorem dL_ways_124 : decode cL_ways 124 = .ok (.irem, 1) := by decide +kernel
theorem dL_ways_125 : decode cL_ways 125 = .ok (.ifCond .ne 9, 3) := by decide +kernel
theorem dL_ways_128 : decode cL_ways 128 = .ok (.sipush 201, 3) := by decide +kernel
theorem dL_ways_131 : decode cL_ways 131 = .ok (.goto 6, 3) := by decide +kernel
theorem dL_ways_134 : decode cL_ways 134 = .ok (.sipush 200, 3) := by decide +kernel
theorem dL_ways_137 : decode cL_ways 137 = .ok (.if_icmp .ne 7, 3) := by decide +kernel
theorem dL_ways_140 : decode cL_ways 140 = .ok (.iconst 1, 1) := by decide +kernel
theorem dL_ways_141 : decode cL_ways 141 = .ok (.goto 4, 3) := by decide +kernel
theorem dL_ways_144 : decode cL_ways 144 = .ok (.iconst 0, 1) := by decide +kernel
theorem dL_ways_145 : decode cL_ways 145 = .ok (.ireturn, 1) := by decide +kernel
theorem dL_law_0 : decode cL_law 0 = .ok (.new 10, 3) := by decide +kernel
theorem dL_law_3 : decode cL_law 3 = .ok (.dup, 1) := by decide +kernel
theorem dL_law_4 : decode cL_law 4 = .ok (.invokespecial 60, 3) := by decide +kernel
theorem dL_law_7 : decode cL_law 7 = .ok (.astore_n 1, 1) := by decide +kernel
theorem dL_law_8 : decode cL_law 8 = .ok (.aload_n 1, 1) := by decide +kernel
theorem dL_law_9 : decode cL_law 9 = .ok (.invokevirtual 61, 3) := by decide +kernel
theorem dL_law_12 : decode cL_law 12 = .ok (.bipush (-4), 2) := by decide +kernel
theorem dL_law_14 : decode cL_law 14 = .ok (.if_icmp .ne 61, 3) := by decide +kernel
theorem dL_law_17 : decode cL_law 17 = .ok (.aload_n 1, 1) := by decide +kernel
theorem dL_law_18 : decode cL_law 18 = .ok (.invokevirtual 64, 3) := by decide +kernel
theorem dL_law_21 : decode cL_law 21 = .ok (.bipush (-4), 2) := by decide +kernel
theorem dL_law_23 : decode cL_law 23 = .ok (.if_icmp .ne 52, 3) := by decide +kernel
theorem dL_law_26 : decode cL_law 26 = .ok (.aload_n 1, 1) := by decide +kernel
theorem dL_law_27 : decode cL_law 27 = .ok (.invokevirtual 67, 3) := by decide +kernel
theorem dL_law_30 : decode cL_law 30 = .ok (.bipush (-100), 2) := by decide +kernel
theorem dL_law_32 : decode cL_law 32 = .ok (.if_icmp .ne 43, 3) := by decide +kernel
theorem dL_law_35 : decode cL_law 35 = .ok (.aload_n 1, 1) := by decide +kernel
theorem dL_law_36 : decode cL_law 36 = .ok (.invokevirtual 50, 3) := by decide +kernel
theorem dL_law_39 : decode cL_law 39 = .ok (.bipush (-4), 2) := by decide +kernel
theorem dL_law_41 : decode cL_law 41 = .ok (.if_icmp .ne 34, 3) := by decide +kernel
theorem dL_law_44 : decode cL_law 44 = .ok (.aload_n 1, 1) := by decide +kernel
theorem dL_law_45 : decode cL_law 45 = .ok (.iconst 0, 1) := by decide +kernel
theorem dL_law_46 : decode cL_law 46 = .ok (.invokevirtual 19, 3) := by decide +kernel
theorem dL_law_49 : decode cL_law 49 = .ok (.iconst (-1), 1) := by decide +kernel
theorem dL_law_50 : decode cL_law 50 = .ok (.if_icmp .ne 25, 3) := by decide +kernel
theorem dL_law_53 : decode cL_law 53 = .ok (.aload_n 1, 1) := by decide +kernel
theorem dL_law_54 : decode cL_law 54 = .ok (.iconst 5, 1) := by decide +kernel
theorem dL_law_55 : decode cL_law 55 = .ok (.iconst 1, 1) := by decide +kernel
theorem dL_law_56 : decode cL_law 56 = .ok (.invokevirtual 37, 3) := by decide +kernel
theorem dL_law_59 : decode cL_law 59 = .ok (.iconst 1, 1) := by decide +kernel
theorem dL_law_60 : decode cL_law 60 = .ok (.if_icmp .ne 15, 3) := by decide +kernel
theorem dL_law_63 : decode cL_law 63 = .ok (.aload_n 1, 1) := by decide +kernel
theorem dL_law_64 : decode cL_law 64 = .ok (.iconst 5, 1) := by decide +kernel
theorem dL_law_65 : decode cL_law 65 = .ok (.invokestatic 70, 3) := by decide +kernel
theorem dL_law_68 : decode cL_law 68 = .ok (.ifCond .eq 7, 3) := by decide +kernel
theorem dL_law_71 : decode cL_law 71 = .ok (.iconst 1, 1) := by decide +kernel
theorem dL_law_72 : decode cL_law 72 = .ok (.goto 4, 3) := by decide +kernel
theorem dL_law_75 : decode cL_law 75 = .ok (.iconst 0, 1) := by decide +kernel
theorem dL_law_76 : decode cL_law 76 = .ok (.istore_n 2, 1) := by decide +kernel
theorem dL_law_77 : decode cL_law 77 = .ok (.iconst 0, 1) := by decide +kernel
theorem dL_law_78 : decode cL_law 78 = .ok (.istore_n 3, 1) := by decide +kernel
theorem dL_law_79 : decode cL_law 79 = .ok (.iload_n 3, 1) := by decide +kernel
theorem dL_law_80 : decode cL_law 80 = .ok (.bipush 34, 2) := by decide +kernel
theorem dL_law_82 : decode cL_law 82 = .ok (.if_icmp .ge 740, 3) := by decide +kernel
theorem dL_law_85 : decode cL_law 85 = .ok (.iload_n 2, 1) := by decide +kernel
theorem dL_law_86 : decode cL_law 86 = .ok (.ifCond .eq 736, 3) := by decide +kernel
theorem dL_law_89 : decode cL_law 89 = .ok (.aload_n 0, 1) := by decide +kernel
theorem dL_law_90 : decode cL_law 90 = .ok (.iload_n 3, 1) := by decide +kernel
theorem dL_law_91 : decode cL_law 91 = .ok (.invokestatic 76, 3) := by decide +kernel
theorem dL_law_94 : decode cL_law 94 = .ok (.istore 4, 2) := by decide +kernel
theorem dL_law_96 : decode cL_law 96 = .ok (.iload 4, 2) := by decide +kernel
theorem dL_law_98 : decode cL_law 98 = .ok (.bipush 16, 2) := by decide +kernel
theorem dL_law_100 : decode cL_law 100 = .ok (.idiv, 1) := by decide +kernel
theorem dL_law_101 : decode cL_law 101 = .ok (.istore 5, 2) := by decide +kernel
theorem dL_law_103 : decode cL_law 103 = .ok (.iload 4, 2) := by decide +kernel
theorem dL_law_105 : decode cL_law 105 = .ok (.bipush 16, 2) := by decide +kernel
theorem dL_law_107 : decode cL_law 107 = .ok (.irem, 1) := by decide +kernel
theorem dL_law_108 : decode cL_law 108 = .ok (.istore 6, 2) := by decide +kernel
theorem dL_law_110 : decode cL_law 110 = .ok (.iload 5, 2) := by decide +kernel
theorem dL_law_112 : decode cL_law 112 = .ok (.bipush 9, 2) := by decide +kernel
theorem dL_law_114 : decode cL_law 114 = .ok (.irem, 1) := by decide +kernel
theorem dL_law_115 : decode cL_law 115 = .ok (.istore 7, 2) := by decide +kernel
theorem dL_law_117 : decode cL_law 117 = .ok (.iload 5, 2) := by decide +kernel
theorem dL_law_119 : decode cL_law 119 = .ok (.bipush 64, 2) := by decide +kernel
theorem dL_law_121 : decode cL_law 121 = .ok (.idiv, 1) := by decide +kernel
theorem dL_law_122 : decode cL_law 122 = .ok (.iconst 5, 1) := by decide +kernel
theorem dL_law_123 : decode cL_law 123 = .ok (.irem, 1) := by decide +kernel
theorem dL_law_124 : decode cL_law 124 = .ok (.ifCond .ne 18, 3) := by decide +kernel
theorem dL_law_127 : decode cL_law 127 = .ok (.iconst 1, 1) := by decide +kernel
theorem dL_law_128 : decode cL_law 128 = .ok (.iload 5, 2) := by decide +kernel
theorem dL_law_130 : decode cL_law 130 = .ok (.sipush 512, 3) := by decide +kernel
theorem dL_law_133 : decode cL_law 133 = .ok (.idiv, 1) := by decide +kernel
theorem dL_law_134 : decode cL_law 134 = .ok (.sipush 9999, 3) := by decide +kernel
theorem dL_law_137 : decode cL_law 137 = .ok (.irem, 1) := by decide +kernel
theorem dL_law_138 : decode cL_law 138 = .ok (.iadd, 1) := by decide +kernel
theorem dL_law_139 : decode cL_law 139 = .ok (.goto 14, 3) := by decide +kernel
theorem dL_law_142 : decode cL_law 142 = .ok (.iconst 1, 1) := by decide +kernel
theorem dL_law_143 : decode cL_law 143 = .ok (.iload 5, 2) := by decide +kernel
theorem dL_law_145 : decode cL_law 145 = .ok (.sipush 512, 3) := by decide +kernel
theorem dL_law_148 : decode cL_law 148 = .ok (.idiv, 1) := by decide +kernel
theorem dL_law_149 : decode cL_law 149 = .ok (.bipush 60, 2) := by decide +kernel
theorem dL_law_151 : decode cL_law 151 = .ok (.irem, 1) := by decide +kernel
theorem dL_law_152 : decode cL_law 152 = .ok (.iadd, 1) := by decide +kernel
theorem dL_law_153 : decode cL_law 153 = .ok (.istore 8, 2) := by decide +kernel
theorem dL_law_155 : decode cL_law 155 = .ok (.aload_n 1, 1) := by decide +kernel
theorem dL_law_156 : decode cL_law 156 = .ok (.bipush 15, 2) := by decide +kernel
theorem dL_law_158 : decode cL_law 158 = .ok (.invokevirtual 43, 3) := by decide +kernel
theorem dL_law_161 : decode cL_law 161 = .ok (.istore 9, 2) := by decide +kernel
theorem dL_law_163 : decode cL_law 163 = .ok (.aload_n 1, 1) := by decide +kernel
theorem dL_law_164 : decode cL_law 164 = .ok (.iconst 3, 1) := by decide +kernel
theorem dL_law_165 : decode cL_law 165 = .ok (.invokevirtual 43, 3) := by decide +kernel
theorem dL_law_168 : decode cL_law 168 = .ok (.istore 10, 2) := by decide +kernel
theorem dL_law_170 : decode cL_law 170 = .ok (.aload_n 1, 1) := by decide +kernel
theorem dL_law_171 : decode cL_law 171 = .ok (.iconst 4, 1) := by decide +kernel
theorem dL_law_172 : decode cL_law 172 = .ok (.invokevirtual 43, 3) := by decide +kernel
theorem dL_law_175 : decode cL_law 175 = .ok (.istore 11, 2) := by decide +kernel
theorem dL_law_177 : decode cL_law 177 = .ok (.aload_n 1, 1) := by decide +kernel
theorem dL_law_178 : decode cL_law 178 = .ok (.bipush 8, 2) := by decide +kernel
theorem dL_law_180 : decode cL_law 180 = .ok (.invokevirtual 43, 3) := by decide +kernel
theorem dL_law_183 : decode cL_law 183 = .ok (.istore 12, 2) := by decide +kernel
theorem dL_law_185 : decode cL_law 185 = .ok (.aload_n 1, 1) := by decide +kernel
theorem dL_law_186 : decode cL_law 186 = .ok (.bipush 9, 2) := by decide +kernel
theorem dL_law_188 : decode cL_law 188 = .ok (.invokevirtual 43, 3) := by decide +kernel
theorem dL_law_191 : decode cL_law 191 = .ok (.istore 13, 2) := by decide +kernel
theorem dL_law_193 : decode cL_law 193 = .ok (.aload_n 1, 1) := by decide +kernel
theorem dL_law_194 : decode cL_law 194 = .ok (.bipush 6, 2) := by decide +kernel
theorem dL_law_196 : decode cL_law 196 = .ok (.invokevirtual 43, 3) := by decide +kernel
theorem dL_law_199 : decode cL_law 199 = .ok (.istore 14, 2) := by decide +kernel
theorem dL_law_201 : decode cL_law 201 = .ok (.aload_n 1, 1) := by decide +kernel
theorem dL_law_202 : decode cL_law 202 = .ok (.bipush 10, 2) := by decide +kernel
theorem dL_law_204 : decode cL_law 204 = .ok (.invokevirtual 43, 3) := by decide +kernel
theorem dL_law_207 : decode cL_law 207 = .ok (.istore 15, 2) := by decide +kernel
theorem dL_law_209 : decode cL_law 209 = .ok (.aload_n 1, 1) := by decide +kernel
theorem dL_law_210 : decode cL_law 210 = .ok (.iload 7, 2) := by decide +kernel
theorem dL_law_212 : decode cL_law 212 = .ok (.iload 8, 2) := by decide +kernel
theorem dL_law_214 : decode cL_law 214 = .ok (.invokevirtual 37, 3) := by decide +kernel
theorem dL_law_217 : decode cL_law 217 = .ok (.istore 16, 2) := by decide +kernel
theorem dL_law_219 : decode cL_law 219 = .ok (.aload_n 1, 1) := by decide +kernel
theorem dL_law_220 : decode cL_law 220 = .ok (.iload 7, 2) := by decide +kernel
theorem dL_law_222 : decode cL_law 222 = .ok (.iload 8, 2) := by decide +kernel
theorem dL_law_224 : decode cL_law 224 = .ok (.iconst 0, 1) := by decide +kernel
theorem dL_law_225 : decode cL_law 225 = .ok (.invokevirtual 80, 3) := by decide +kernel
theorem dL_law_228 : decode cL_law 228 = .ok (.istore 17, 2) := by decide +kernel
theorem dL_law_230 : decode cL_law 230 = .ok (.aload_n 1, 1) := by decide +kernel
theorem dL_law_231 : decode cL_law 231 = .ok (.iload 7, 2) := by decide +kernel
theorem dL_law_233 : decode cL_law 233 = .ok (.iload 8, 2) := by decide +kernel
theorem dL_law_235 : decode cL_law 235 = .ok (.iconst 1, 1) := by decide +kernel
theorem dL_law_236 : decode cL_law 236 = .ok (.invokevirtual 80, 3) := by decide +kernel
theorem dL_law_239 : decode cL_law 239 = .ok (.istore 18, 2) := by decide +kernel
theorem dL_law_241 : decode cL_law 241 = .ok (.aload_n 1, 1) := by decide +kernel
theorem dL_law_242 : decode cL_law 242 = .ok (.iload 7, 2) := by decide +kernel
theorem dL_law_244 : decode cL_law 244 = .ok (.iload 8, 2) := by decide +kernel
theorem dL_law_246 : decode cL_law 246 = .ok (.iconst 2, 1) := by decide +kernel
theorem dL_law_247 : decode cL_law 247 = .ok (.invokevirtual 80, 3) := by decide +kernel
theorem dL_law_250 : decode cL_law 250 = .ok (.istore 19, 2) := by decide +kernel
theorem dL_law_252 : decode cL_law 252 = .ok (.aload_n 1, 1) := by decide +kernel
theorem dL_law_253 : decode cL_law 253 = .ok (.iload 7, 2) := by decide +kernel
theorem dL_law_255 : decode cL_law 255 = .ok (.iload 8, 2) := by decide +kernel
theorem dL_law_257 : decode cL_law 257 = .ok (.iconst 3, 1) := by decide +kernel
theorem dL_law_258 : decode cL_law 258 = .ok (.invokevirtual 80, 3) := by decide +kernel
theorem dL_law_261 : decode cL_law 261 = .ok (.istore 20, 2) := by decide +kernel
theorem dL_law_263 : decode cL_law 263 = .ok (.aload_n 1, 1) := by decide +kernel
theorem dL_law_264 : decode cL_law 264 = .ok (.iload 7, 2) := by decide +kernel
theorem dL_law_266 : decode cL_law 266 = .ok (.iload 8, 2) := by decide +kernel
theorem dL_law_268 : decode cL_law 268 = .ok (.iconst 4, 1) := by decide +kernel
theorem dL_law_269 : decode cL_law 269 = .ok (.invokevirtual 80, 3) := by decide +kernel
theorem dL_law_272 : decode cL_law 272 = .ok (.istore 21, 2) := by decide +kernel
theorem dL_law_274 : decode cL_law 274 = .ok (.aload_n 1, 1) := by decide +kernel
theorem dL_law_275 : decode cL_law 275 = .ok (.iload 7, 2) := by decide +kernel
theorem dL_law_277 : decode cL_law 277 = .ok (.aload_n 1, 1) := by decide +kernel
theorem dL_law_278 : decode cL_law 278 = .ok (.iload 7, 2) := by decide +kernel
theorem dL_law_280 : decode cL_law 280 = .ok (.iload 8, 2) := by decide +kernel
theorem dL_law_282 : decode cL_law 282 = .ok (.invokevirtual 54, 3) := by decide +kernel
theorem dL_law_285 : decode cL_law 285 = .ok (.iload 8, 2) := by decide +kernel
theorem dL_law_287 : decode cL_law 287 = .ok (.invokevirtual 46, 3) := by decide +kernel
theorem dL_law_290 : decode cL_law 290 = .ok (.istore 22, 2) := by decide +kernel
theorem dL_law_292 : decode cL_law 292 = .ok (.aload_n 1, 1) := by decide +kernel
theorem dL_law_293 : decode cL_law 293 = .ok (.iload 7, 2) := by decide +kernel
theorem dL_law_295 : decode cL_law 295 = .ok (.bipush 8, 2) := by decide +kernel
theorem dL_law_297 : decode cL_law 297 = .ok (.invokevirtual 34, 3) := by decide +kernel
theorem dL_law_300 : decode cL_law 300 = .ok (.istore 23, 2) := by decide +kernel
theorem dL_law_302 : decode cL_law 302 = .ok (.iload 21, 2) := by decide +kernel
theorem dL_law_304 : decode cL_law 304 = .ok (.iload 17, 2) := by decide +kernel
theorem dL_law_306 : decode cL_law 306 = .ok (.iload 22, 2) := by decide +kernel
theorem dL_law_308 : decode cL_law 308 = .ok (.isub, 1) := by decide +kernel
theorem dL_law_309 : decode cL_law 309 = .ok (.if_icmp .ne 113, 3) := by decide +kernel
theorem dL_law_312 : decode cL_law 312 = .ok (.iload 21, 2) := by decide +kernel
theorem dL_law_314 : decode cL_law 314 = .ok (.ifCond .lt 108, 3) := by decide +kernel
theorem dL_law_317 : decode cL_law 317 = .ok (.iload 17, 2) := by decide +kernel
theorem dL_law_319 : decode cL_law 319 = .ok (.aload_n 1, 1) := by decide +kernel
theorem dL_law_320 : decode cL_law 320 = .ok (.iload 7, 2) := by decide +kernel
theorem dL_law_322 : decode cL_law 322 = .ok (.iload 18, 2) := by decide +kernel
theorem dL_law_324 : decode cL_law 324 = .ok (.iload 8, 2) := by decide +kernel
theorem dL_law_326 : decode cL_law 326 = .ok (.invokevirtual 46, 3) := by decide +kernel
theorem dL_law_329 : decode cL_law 329 = .ok (.iload 16, 2) := by decide +kernel
theorem dL_law_331 : decode cL_law 331 = .ok (.ifCond .ne 7, 3) := by decide +kernel
theorem dL_law_334 : decode cL_law 334 = .ok (.iconst 0, 1) := by decide +kernel
theorem dL_law_335 : decode cL_law 335 = .ok (.goto 5, 3) := by decide +kernel
theorem dL_law_338 : decode cL_law 338 = .ok (.iload 15, 2) := by decide +kernel
theorem dL_law_340 : decode cL_law 340 = .ok (.iadd, 1) := by decide +kernel
theorem dL_law_341 : decode cL_law 341 = .ok (.if_icmp .ne 81, 3) := by decide +kernel
theorem dL_law_344 : decode cL_law 344 = .ok (.iload 16, 2) := by decide +kernel
theorem dL_law_346 : decode cL_law 346 = .ok (.ifCond .ne 25, 3) := by decide +kernel
theorem dL_law_349 : decode cL_law 349 = .ok (.iload 18, 2) := by decide +kernel
theorem dL_law_351 : decode cL_law 351 = .ok (.aload_n 1, 1) := by decide +kernel
theorem dL_law_352 : decode cL_law 352 = .ok (.iload 7, 2) := by decide +kernel
theorem dL_law_354 : decode cL_law 354 = .ok (.iconst 0, 1) := by decide +kernel
theorem dL_law_355 : decode cL_law 355 = .ok (.invokevirtual 34, 3) := by decide +kernel
theorem dL_law_358 : decode cL_law 358 = .ok (.if_icmp .ne 64, 3) := by decide +kernel
theorem dL_law_361 : decode cL_law 361 = .ok (.iload 20, 2) := by decide +kernel
theorem dL_law_363 : decode cL_law 363 = .ok (.bipush (-4), 2) := by decide +kernel
theorem dL_law_365 : decode cL_law 365 = .ok (.if_icmp .ne 57, 3) := by decide +kernel
theorem dL_law_368 : decode cL_law 368 = .ok (.goto 21, 3) := by decide +kernel
theorem dL_law_371 : decode cL_law 371 = .ok (.iload 19, 2) := by decide +kernel
theorem dL_law_373 : decode cL_law 373 = .ok (.ifCond .ne 49, 3) := by decide +kernel
theorem dL_law_376 : decode cL_law 376 = .ok (.iload 18, 2) := by decide +kernel
theorem dL_law_378 : decode cL_law 378 = .ok (.aload_n 1, 1) := by decide +kernel
theorem dL_law_379 : decode cL_law 379 = .ok (.iload 7, 2) := by decide +kernel
theorem dL_law_381 : decode cL_law 381 = .ok (.iload 8, 2) := by decide +kernel
theorem dL_law_383 : decode cL_law 383 = .ok (.invokevirtual 54, 3) := by decide +kernel
theorem dL_law_386 : decode cL_law 386 = .ok (.if_icmp .ne 36, 3) := by decide +kernel
theorem dL_law_389 : decode cL_law 389 = .ok (.iload 20, 2) := by decide +kernel
theorem dL_law_391 : decode cL_law 391 = .ok (.bipush (-4), 2) := by decide +kernel
theorem dL_law_393 : decode cL_law 393 = .ok (.if_icmp .eq 25, 3) := by decide +kernel
theorem dL_law_396 : decode cL_law 396 = .ok (.aload_n 1, 1) := by decide +kernel
theorem dL_law_397 : decode cL_law 397 = .ok (.iload 20, 2) := by decide +kernel
theorem dL_law_399 : decode cL_law 399 = .ok (.bipush 7, 2) := by decide +kernel
theorem dL_law_401 : decode cL_law 401 = .ok (.invokevirtual 34, 3) := by decide +kernel
theorem dL_law_404 : decode cL_law 404 = .ok (.ifCond .ne 18, 3) := by decide +kernel
theorem dL_law_407 : decode cL_law 407 = .ok (.aload_n 1, 1) := by decide +kernel
theorem dL_law_408 : decode cL_law 408 = .ok (.iload 7, 2) := by decide +kernel
theorem dL_law_410 : decode cL_law 410 = .ok (.iconst 0, 1) := by decide +kernel
theorem dL_law_411 : decode cL_law 411 = .ok (.invokevirtual 34, 3) := by decide +kernel
theorem dL_law_414 : decode cL_law 414 = .ok (.iconst (-1), 1) := by decide +kernel
theorem dL_law_415 : decode cL_law 415 = .ok (.if_icmp .ne 7, 3) := by decide +kernel
theorem dL_law_418 : decode cL_law 418 = .ok (.iconst 1, 1) := by decide +kernel
theorem dL_law_419 : decode cL_law 419 = .ok (.goto 4, 3) := by decide +kernel
theorem dL_law_422 : decode cL_law 422 = .ok (.iconst 0, 1) := by decide +kernel
theorem dL_law_423 : decode cL_law 423 = .ok (.istore_n 2, 1) := by decide +kernel
theorem dL_law_424 : decode cL_law 424 = .ok (.iload_n 2, 1) := by decide +kernel
theorem dL_law_425 : decode cL_law 425 = .ok (.ifCond .eq 12, 3) := by decide +kernel
theorem dL_law_428 : decode cL_law 428 = .ok (.aload_n 1, 1) := by decide +kernel
theorem dL_law_429 : decode cL_law 429 = .ok (.iload 4, 2) := by decide +kernel
theorem dL_law_431 : decode cL_law 431 = .ok (.invokestatic 83, 3) := by decide +kernel
theorem dL_law_434 : decode cL_law 434 = .ok (.goto 4, 3) := by decide +kernel
theorem dL_law_437 : decode cL_law 437 = .ok (.iconst 0, 1) := by decide +kernel
theorem dL_law_438 : decode cL_law 438 = .ok (.istore 24, 2) := by decide +kernel
theorem dL_law_440 : decode cL_law 440 = .ok (.iload_n 2, 1) := by decide +kernel
theorem dL_law_441 : decode cL_law 441 = .ok (.ifCond .eq 59, 3) := by decide +kernel
theorem dL_law_444 : decode cL_law 444 = .ok (.iload 24, 2) := by decide +kernel
theorem dL_law_446 : decode cL_law 446 = .ok (.ifCond .lt 29, 3) := by decide +kernel
theorem dL_law_449 : decode cL_law 449 = .ok (.aload_n 1, 1) := by decide +kernel
theorem dL_law_450 : decode cL_law 450 = .ok (.bipush 15, 2) := by decide +kernel
theorem dL_law_452 : decode cL_law 452 = .ok (.invokevirtual 43, 3) := by decide +kernel
theorem dL_law_455 : decode cL_law 455 = .ok (.iload 9, 2) := by decide +kernel
theorem dL_law_457 : decode cL_law 457 = .ok (.iconst 4, 1) := by decide +kernel
theorem dL_law_458 : decode cL_law 458 = .ok (.if_icmp .ne 7, 3) := by decide +kernel
theorem dL_law_461 : decode cL_law 461 = .ok (.iconst 4, 1) := by decide +kernel
theorem dL_law_462 : decode cL_law 462 = .ok (.goto 7, 3) := by decide +kernel
theorem dL_law_465 : decode cL_law 465 = .ok (.iload 9, 2) := by decide +kernel
theorem dL_law_467 : decode cL_law 467 = .ok (.iconst 1, 1) := by decide +kernel
theorem dL_law_468 : decode cL_law 468 = .ok (.iadd, 1) := by decide +kernel
theorem dL_law_469 : decode cL_law 469 = .ok (.if_icmp .ne 31, 3) := by decide +kernel
theorem dL_law_472 : decode cL_law 472 = .ok (.goto 24, 3) := by decide +kernel
theorem dL_law_475 : decode cL_law 475 = .ok (.aload_n 1, 1) := by decide +kernel
theorem dL_law_476 : decode cL_law 476 = .ok (.bipush 15, 2) := by decide +kernel
theorem dL_law_478 : decode cL_law 478 = .ok (.invokevirtual 43, 3) := by decide +kernel
theorem dL_law_481 : decode cL_law 481 = .ok (.iload 9, 2) := by decide +kernel
theorem dL_law_483 : decode cL_law 483 = .ok (.if_icmp .ne 17, 3) := by decide +kernel
theorem dL_law_486 : decode cL_law 486 = .ok (.aload_n 1, 1) := by decide +kernel
theorem dL_law_487 : decode cL_law 487 = .ok (.iconst 3, 1) := by decide +kernel
theorem dL_law_488 : decode cL_law 488 = .ok (.invokevirtual 43, 3) := by decide +kernel
theorem dL_law_491 : decode cL_law 491 = .ok (.iload 10, 2) := by decide +kernel
theorem dL_law_493 : decode cL_law 493 = .ok (.if_icmp .ne 7, 3) := by decide +kernel
theorem dL_law_496 : decode cL_law 496 = .ok (.iconst 1, 1) := by decide +kernel
theorem dL_law_497 : decode cL_law 497 = .ok (.goto 4, 3) := by decide +kernel
theorem dL_law_500 : decode cL_law 500 = .ok (.iconst 0, 1) := by decide +kernel
theorem dL_law_501 : decode cL_law 501 = .ok (.istore_n 2, 1) := by decide +kernel
theorem dL_law_502 : decode cL_law 502 = .ok (.iload_n 2, 1) := by decide +kernel
theorem dL_law_503 : decode cL_law 503 = .ok (.ifCond .eq 245, 3) := by decide +kernel
theorem dL_law_506 : decode cL_law 506 = .ok (.iload 6, 2) := by decide +kernel
theorem dL_law_508 : decode cL_law 508 = .ok (.iconst 3, 1) := by decide +kernel
theorem dL_law_509 : decode cL_law 509 = .ok (.if_icmp .le 239, 3) := by decide +kernel
theorem dL_law_512 : decode cL_law 512 = .ok (.iload 24, 2) := by decide +kernel
theorem dL_law_514 : decode cL_law 514 = .ok (.iload 17, 2) := by decide +kernel
theorem dL_law_516 : decode cL_law 516 = .ok (.if_icmp .ne 227, 3) := by decide +kernel
theorem dL_law_519 : decode cL_law 519 = .ok (.aload_n 1, 1) := by decide +kernel
theorem dL_law_520 : decode cL_law 520 = .ok (.iconst 3, 1) := by decide +kernel
theorem dL_law_521 : decode cL_law 521 = .ok (.invokevirtual 43, 3) := by decide +kernel
theorem dL_law_524 : decode cL_law 524 = .ok (.iload 10, 2) := by decide +kernel
theorem dL_law_526 : decode cL_law 526 = .ok (.iconst 1, 1) := by decide +kernel
theorem dL_law_527 : decode cL_law 527 = .ok (.iadd, 1) := by decide +kernel
theorem dL_law_528 : decode cL_law 528 = .ok (.if_icmp .ne 215, 3) := by decide +kernel
theorem dL_law_531 : decode cL_law 531 = .ok (.aload_n 1, 1) := by decide +kernel
theorem dL_law_532 : decode cL_law 532 = .ok (.iconst 4, 1) := by decide +kernel
theorem dL_law_533 : decode cL_law 533 = .ok (.invokevirtual 43, 3) := by decide +kernel
theorem dL_law_536 : decode cL_law 536 = .ok (.iload 11, 2) := by decide +kernel
theorem dL_law_538 : decode cL_law 538 = .ok (.iload 16, 2) := by decide +kernel
theorem dL_law_540 : decode cL_law 540 = .ok (.ifCond .ne 7, 3) := by decide +kernel
theorem dL_law_543 : decode cL_law 543 = .ok (.iconst 1, 1) := by decide +kernel
theorem dL_law_544 : decode cL_law 544 = .ok (.goto 4, 3) := by decide +kernel
theorem dL_law_547 : decode cL_law 547 = .ok (.iconst 0, 1) := by decide +kernel
theorem dL_law_548 : decode cL_law 548 = .ok (.iadd, 1) := by decide +kernel
theorem dL_law_549 : decode cL_law 549 = .ok (.if_icmp .ne 194, 3) := by decide +kernel
theorem dL_law_552 : decode cL_law 552 = .ok (.aload_n 1, 1) := by decide +kernel
theorem dL_law_553 : decode cL_law 553 = .ok (.bipush 6, 2) := by decide +kernel
theorem dL_law_555 : decode cL_law 555 = .ok (.invokevirtual 43, 3) := by decide +kernel
theorem dL_law_558 : decode cL_law 558 = .ok (.iload 14, 2) := by decide +kernel
theorem dL_law_560 : decode cL_law 560 = .ok (.iload 24, 2) := by decide +kernel
theorem dL_law_562 : decode cL_law 562 = .ok (.iadd, 1) := by decide +kernel
theorem dL_law_563 : decode cL_law 563 = .ok (.if_icmp .ne 180, 3) := by decide +kernel
theorem dL_law_566 : decode cL_law 566 = .ok (.aload_n 1, 1) := by decide +kernel
theorem dL_law_567 : decode cL_law 567 = .ok (.bipush 8, 2) := by decide +kernel
theorem dL_law_569 : decode cL_law 569 = .ok (.invokevirtual 43, 3) := by decide +kernel
theorem dL_law_572 : decode cL_law 572 = .ok (.iload 12, 2) := by decide +kernel
theorem dL_law_574 : decode cL_law 574 = .ok (.iload 19, 2) := by decide +kernel
theorem dL_law_576 : decode cL_law 576 = .ok (.iadd, 1) := by decide +kernel
theorem dL_law_577 : decode cL_law 577 = .ok (.if_icmp .ne 166, 3) := by decide +kernel
theorem dL_law_580 : decode cL_law 580 = .ok (.iload 16, 2) := by decide +kernel
theorem dL_law_582 : decode cL_law 582 = .ok (.ifCond .eq 32, 3) := by decide +kernel
theorem dL_law_585 : decode cL_law 585 = .ok (.iload 20, 2) := by decide +kernel
theorem dL_law_587 : decode cL_law 587 = .ok (.bipush (-4), 2) := by decide +kernel
theorem dL_law_589 : decode cL_law 589 = .ok (.if_icmp .eq 25, 3) := by decide +kernel
theorem dL_law_592 : decode cL_law 592 = .ok (.aload_n 1, 1) := by decide +kernel
theorem dL_law_593 : decode cL_law 593 = .ok (.bipush 9, 2) := by decide +kernel
theorem dL_law_595 : decode cL_law 595 = .ok (.invokevirtual 43, 3) := by decide +kernel
theorem dL_law_598 : decode cL_law 598 = .ok (.iload 13, 2) := by decide +kernel
theorem dL_law_600 : decode cL_law 600 = .ok (.if_icmp .le 143, 3) := by decide +kernel
theorem dL_law_603 : decode cL_law 603 = .ok (.aload_n 1, 1) := by decide +kernel
theorem dL_law_604 : decode cL_law 604 = .ok (.iload 20, 2) := by decide +kernel
theorem dL_law_606 : decode cL_law 606 = .ok (.iconst 0, 1) := by decide +kernel
theorem dL_law_607 : decode cL_law 607 = .ok (.invokevirtual 34, 3) := by decide +kernel
theorem dL_law_610 : decode cL_law 610 = .ok (.iconst (-1), 1) := by decide +kernel
theorem dL_law_611 : decode cL_law 611 = .ok (.if_icmp .ne 132, 3) := by decide +kernel
theorem dL_law_614 : decode cL_law 614 = .ok (.iload 19, 2) := by decide +kernel
theorem dL_law_616 : decode cL_law 616 = .ok (.iconst 1, 1) := by decide +kernel
theorem dL_law_617 : decode cL_law 617 = .ok (.if_icmp .ne 17, 3) := by decide +kernel
theorem dL_law_620 : decode cL_law 620 = .ok (.aload_n 1, 1) := by decide +kernel
theorem dL_law_621 : decode cL_law 621 = .ok (.iload 7, 2) := by decide +kernel
theorem dL_law_623 : decode cL_law 623 = .ok (.iconst 0, 1) := by decide +kernel
theorem dL_law_624 : decode cL_law 624 = .ok (.invokevirtual 34, 3) := by decide +kernel
theorem dL_law_627 : decode cL_law 627 = .ok (.iconst (-1), 1) := by decide +kernel
theorem dL_law_628 : decode cL_law 628 = .ok (.if_icmp .ne 115, 3) := by decide +kernel
theorem dL_law_631 : decode cL_law 631 = .ok (.goto 108, 3) := by decide +kernel
theorem dL_law_634 : decode cL_law 634 = .ok (.iload 16, 2) := by decide +kernel
theorem dL_law_636 : decode cL_law 636 = .ok (.ifCond .ne 21, 3) := by decide +kernel
theorem dL_law_639 : decode cL_law 639 = .ok (.aload_n 1, 1) := by decide +kernel
theorem dL_law_640 : decode cL_law 640 = .ok (.iload 7, 2) := by decide +kernel
theorem dL_law_642 : decode cL_law 642 = .ok (.bipush 8, 2) := by decide +kernel
theorem dL_law_644 : decode cL_law 644 = .ok (.invokevirtual 34, 3) := by decide +kernel
theorem dL_law_647 : decode cL_law 647 = .ok (.iload 23, 2) := by decide +kernel
theorem dL_law_649 : decode cL_law 649 = .ok (.iconst 1, 1) := by decide +kernel
theorem dL_law_650 : decode cL_law 650 = .ok (.iadd, 1) := by decide +kernel
theorem dL_law_651 : decode cL_law 651 = .ok (.if_icmp .ne 92, 3) := by decide +kernel
theorem dL_law_654 : decode cL_law 654 = .ok (.goto 85, 3) := by decide +kernel
theorem dL_law_657 : decode cL_law 657 = .ok (.aload_n 1, 1) := by decide +kernel
theorem dL_law_658 : decode cL_law 658 = .ok (.iload 7, 2) := by decide +kernel
theorem dL_law_660 : decode cL_law 660 = .ok (.iconst 0, 1) := by decide +kernel
theorem dL_law_661 : decode cL_law 661 = .ok (.invokevirtual 34, 3) := by decide +kernel
theorem dL_law_664 : decode cL_law 664 = .ok (.iconst (-1), 1) := by decide +kernel
theorem dL_law_665 : decode cL_law 665 = .ok (.if_icmp .eq 74, 3) := by decide +kernel
theorem dL_law_668 : decode cL_law 668 = .ok (.aload_n 1, 1) := by decide +kernel
theorem dL_law_669 : decode cL_law 669 = .ok (.iload 7, 2) := by decide +kernel
theorem dL_law_671 : decode cL_law 671 = .ok (.iconst 3, 1) := by decide +kernel
theorem dL_law_672 : decode cL_law 672 = .ok (.invokevirtual 34, 3) := by decide +kernel
theorem dL_law_675 : decode cL_law 675 = .ok (.iload 8, 2) := by decide +kernel
theorem dL_law_677 : decode cL_law 677 = .ok (.if_icmp .ne 66, 3) := by decide +kernel
theorem dL_law_680 : decode cL_law 680 = .ok (.aload_n 1, 1) := by decide +kernel
theorem dL_law_681 : decode cL_law 681 = .ok (.iload 7, 2) := by decide +kernel
theorem dL_law_683 : decode cL_law 683 = .ok (.bipush 8, 2) := by decide +kernel
theorem dL_law_685 : decode cL_law 685 = .ok (.invokevirtual 34, 3) := by decide +kernel
theorem dL_law_688 : decode cL_law 688 = .ok (.ifCond .ne 55, 3) := by decide +kernel
theorem dL_law_691 : decode cL_law 691 = .ok (.aload_n 1, 1) := by decide +kernel
theorem dL_law_692 : decode cL_law 692 = .ok (.iload 7, 2) := by decide +kernel
theorem dL_law_694 : decode cL_law 694 = .ok (.iconst 5, 1) := by decide +kernel
theorem dL_law_695 : decode cL_law 695 = .ok (.invokevirtual 34, 3) := by decide +kernel
theorem dL_law_698 : decode cL_law 698 = .ok (.ifCond .ne 45, 3) := by decide +kernel
theorem dL_law_701 : decode cL_law 701 = .ok (.aload_n 1, 1) := by decide +kernel
theorem dL_law_702 : decode cL_law 702 = .ok (.iload 7, 2) := by decide +kernel
theorem dL_law_704 : decode cL_law 704 = .ok (.iconst 1, 1) := by decide +kernel
theorem dL_law_705 : decode cL_law 705 = .ok (.invokevirtual 34, 3) := by decide +kernel
theorem dL_law_708 : decode cL_law 708 = .ok (.iload 8, 2) := by decide +kernel
theorem dL_law_710 : decode cL_law 710 = .ok (.aload_n 1, 1) := by decide +kernel
theorem dL_law_711 : decode cL_law 711 = .ok (.bipush 11, 2) := by decide +kernel
theorem dL_law_713 : decode cL_law 713 = .ok (.invokevirtual 43, 3) := by decide +kernel
theorem dL_law_716 : decode cL_law 716 = .ok (.idiv, 1) := by decide +kernel
theorem dL_law_717 : decode cL_law 717 = .ok (.if_icmp .ne 26, 3) := by decide +kernel
theorem dL_law_720 : decode cL_law 720 = .ok (.aload_n 1, 1) := by decide +kernel
theorem dL_law_721 : decode cL_law 721 = .ok (.iload 7, 2) := by decide +kernel
theorem dL_law_723 : decode cL_law 723 = .ok (.iconst 2, 1) := by decide +kernel
theorem dL_law_724 : decode cL_law 724 = .ok (.invokevirtual 34, 3) := by decide +kernel
theorem dL_law_727 : decode cL_law 727 = .ok (.iload 8, 2) := by decide +kernel
theorem dL_law_729 : decode cL_law 729 = .ok (.aload_n 1, 1) := by decide +kernel
theorem dL_law_730 : decode cL_law 730 = .ok (.bipush 11, 2) := by decide +kernel
theorem dL_law_732 : decode cL_law 732 = .ok (.invokevirtual 43, 3) := by decide +kernel
theorem dL_law_735 : decode cL_law 735 = .ok (.imul, 1) := by decide +kernel
theorem dL_law_736 : decode cL_law 736 = .ok (.if_icmp .ne 7, 3) := by decide +kernel
theorem dL_law_739 : decode cL_law 739 = .ok (.iconst 1, 1) := by decide +kernel
theorem dL_law_740 : decode cL_law 740 = .ok (.goto 4, 3) := by decide +kernel
theorem dL_law_743 : decode cL_law 743 = .ok (.iconst 0, 1) := by decide +kernel
theorem dL_law_744 : decode cL_law 744 = .ok (.istore_n 2, 1) := by decide +kernel
theorem dL_law_745 : decode cL_law 745 = .ok (.goto 34, 3) := by decide +kernel
theorem dL_law_748 : decode cL_law 748 = .ok (.iload_n 2, 1) := by decide +kernel
theorem dL_law_749 : decode cL_law 749 = .ok (.ifCond .eq 30, 3) := by decide +kernel
theorem dL_law_752 : decode cL_law 752 = .ok (.iload 6, 2) := by decide +kernel
theorem dL_law_754 : decode cL_law 754 = .ok (.iconst 2, 1) := by decide +kernel
theorem dL_law_755 : decode cL_law 755 = .ok (.if_icmp .ne 24, 3) := by decide +kernel
theorem dL_law_758 : decode cL_law 758 = .ok (.iload 24, 2) := by decide +kernel
theorem dL_law_760 : decode cL_law 760 = .ok (.ifCond .lt 19, 3) := by decide +kernel
theorem dL_law_763 : decode cL_law 763 = .ok (.iload 24, 2) := by decide +kernel
theorem dL_law_765 : decode cL_law 765 = .ok (.aload_n 1, 1) := by decide +kernel
theorem dL_law_766 : decode cL_law 766 = .ok (.iconst 0, 1) := by decide +kernel
theorem dL_law_767 : decode cL_law 767 = .ok (.invokevirtual 43, 3) := by decide +kernel
theorem dL_law_770 : decode cL_law 770 = .ok (.if_icmp .ne 7, 3) := by decide +kernel
theorem dL_law_773 : decode cL_law 773 = .ok (.iconst 1, 1) := by decide +kernel
theorem dL_law_774 : decode cL_law 774 = .ok (.goto 4, 3) := by decide +kernel
theorem dL_law_777 : decode cL_law 777 = .ok (.iconst 0, 1) := by decide +kernel
theorem dL_law_778 : decode cL_law 778 = .ok (.istore_n 2, 1) := by decide +kernel
theorem dL_law_779 : decode cL_law 779 = .ok (.iload_n 2, 1) := by decide +kernel
theorem dL_law_780 : decode cL_law 780 = .ok (.ifCond .eq 34, 3) := by decide +kernel
theorem dL_law_783 : decode cL_law 783 = .ok (.aload_n 1, 1) := by decide +kernel
theorem dL_law_784 : decode cL_law 784 = .ok (.iload 8, 2) := by decide +kernel
theorem dL_law_786 : decode cL_law 786 = .ok (.invokestatic 70, 3) := by decide +kernel
theorem dL_law_789 : decode cL_law 789 = .ok (.ifCond .eq 25, 3) := by decide +kernel
theorem dL_law_792 : decode cL_law 792 = .ok (.iload_n 3, 1) := by decide +kernel
theorem dL_law_793 : decode cL_law 793 = .ok (.bipush 6, 2) := by decide +kernel
theorem dL_law_795 : decode cL_law 795 = .ok (.irem, 1) := by decide +kernel
theorem dL_law_796 : decode cL_law 796 = .ok (.ifCond .gt 14, 3) := by decide +kernel
theorem dL_law_799 : decode cL_law 799 = .ok (.aload_n 1, 1) := by decide +kernel
theorem dL_law_800 : decode cL_law 800 = .ok (.iload 7, 2) := by decide +kernel
theorem dL_law_802 : decode cL_law 802 = .ok (.iload 8, 2) := by decide +kernel
theorem dL_law_804 : decode cL_law 804 = .ok (.invokestatic 87, 3) := by decide +kernel
theorem dL_law_807 : decode cL_law 807 = .ok (.ifCond .eq 7, 3) := by decide +kernel
theorem dL_law_810 : decode cL_law 810 = .ok (.iconst 1, 1) := by decide +kernel
theorem dL_law_811 : decode cL_law 811 = .ok (.goto 4, 3) := by decide +kernel
theorem dL_law_814 : decode cL_law 814 = .ok (.iconst 0, 1) := by decide +kernel
theorem dL_law_815 : decode cL_law 815 = .ok (.istore_n 2, 1) := by decide +kernel
theorem dL_law_816 : decode cL_law 816 = .ok (.iinc 3 1, 3) := by decide +kernel
theorem dL_law_819 : decode cL_law 819 = .ok (.goto (-740), 3) := by decide +kernel
theorem dL_law_822 : decode cL_law 822 = .ok (.iload_n 2, 1) := by decide +kernel
theorem dL_law_823 : decode cL_law 823 = .ok (.ifCond .eq 253, 3) := by decide +kernel
theorem dL_law_826 : decode cL_law 826 = .ok (.aload_n 1, 1) := by decide +kernel
theorem dL_law_827 : decode cL_law 827 = .ok (.iconst 4, 1) := by decide +kernel
theorem dL_law_828 : decode cL_law 828 = .ok (.iconst 1, 1) := by decide +kernel
theorem dL_law_829 : decode cL_law 829 = .ok (.iconst 1, 1) := by decide +kernel
theorem dL_law_830 : decode cL_law 830 = .ok (.invokevirtual 9, 3) := by decide +kernel
theorem dL_law_833 : decode cL_law 833 = .ok (.iconst (-1), 1) := by decide +kernel
theorem dL_law_834 : decode cL_law 834 = .ok (.if_icmp .ne 242, 3) := by decide +kernel
theorem dL_law_837 : decode cL_law 837 = .ok (.aload_n 1, 1) := by decide +kernel
theorem dL_law_838 : decode cL_law 838 = .ok (.iconst 0, 1) := by decide +kernel
theorem dL_law_839 : decode cL_law 839 = .ok (.iconst 1, 1) := by decide +kernel
theorem dL_law_840 : decode cL_law 840 = .ok (.iconst 0, 1) := by decide +kernel
theorem dL_law_841 : decode cL_law 841 = .ok (.invokevirtual 9, 3) := by decide +kernel
theorem dL_law_844 : decode cL_law 844 = .ok (.bipush (-2), 2) := by decide +kernel
theorem dL_law_846 : decode cL_law 846 = .ok (.if_icmp .ne 230, 3) := by decide +kernel
theorem dL_law_849 : decode cL_law 849 = .ok (.aload_n 1, 1) := by decide +kernel
theorem dL_law_850 : decode cL_law 850 = .ok (.iconst 0, 1) := by decide +kernel
theorem dL_law_851 : decode cL_law 851 = .ok (.iconst 0, 1) := by decide +kernel
theorem dL_law_852 : decode cL_law 852 = .ok (.sipush 10000, 3) := by decide +kernel
theorem dL_law_855 : decode cL_law 855 = .ok (.invokevirtual 9, 3) := by decide +kernel
theorem dL_law_858 : decode cL_law 858 = .ok (.bipush (-2), 2) := by decide +kernel
theorem dL_law_860 : decode cL_law 860 = .ok (.if_icmp .ne 216, 3) := by decide +kernel
theorem dL_law_863 : decode cL_law 863 = .ok (.aload_n 1, 1) := by decide +kernel
theorem dL_law_864 : decode cL_law 864 = .ok (.bipush 12, 2) := by decide +kernel
theorem dL_law_866 : decode cL_law 866 = .ok (.iconst 1, 1) := by decide +kernel
theorem dL_law_867 : decode cL_law 867 = .ok (.invokevirtual 31, 3) := by decide +kernel
theorem dL_law_870 : decode cL_law 870 = .ok (.iconst (-1), 1) := by decide +kernel
theorem dL_law_871 : decode cL_law 871 = .ok (.if_icmp .ne 205, 3) := by decide +kernel
theorem dL_law_874 : decode cL_law 874 = .ok (.aload_n 1, 1) := by decide +kernel
theorem dL_law_875 : decode cL_law 875 = .ok (.iconst 1, 1) := by decide +kernel
theorem dL_law_876 : decode cL_law 876 = .ok (.iconst 0, 1) := by decide +kernel
theorem dL_law_877 : decode cL_law 877 = .ok (.invokevirtual 31, 3) := by decide +kernel
theorem dL_law_880 : decode cL_law 880 = .ok (.bipush (-2), 2) := by decide +kernel
theorem dL_law_882 : decode cL_law 882 = .ok (.if_icmp .ne 194, 3) := by decide +kernel
theorem dL_law_885 : decode cL_law 885 = .ok (.aload_n 1, 1) := by decide +kernel
theorem dL_law_886 : decode cL_law 886 = .ok (.iconst 0, 1) := by decide +kernel
theorem dL_law_887 : decode cL_law 887 = .ok (.sipush 10000, 3) := by decide +kernel
theorem dL_law_890 : decode cL_law 890 = .ok (.invokevirtual 31, 3) := by decide +kernel
theorem dL_law_893 : decode cL_law 893 = .ok (.bipush (-2), 2) := by decide +kernel
theorem dL_law_895 : decode cL_law 895 = .ok (.if_icmp .ne 181, 3) := by decide +kernel
theorem dL_law_898 : decode cL_law 898 = .ok (.aload_n 1, 1) := by decide +kernel
theorem dL_law_899 : decode cL_law 899 = .ok (.bipush 12, 2) := by decide +kernel
theorem dL_law_901 : decode cL_law 901 = .ok (.iconst 1, 1) := by decide +kernel
theorem dL_law_902 : decode cL_law 902 = .ok (.invokevirtual 15, 3) := by decide +kernel
theorem dL_law_905 : decode cL_law 905 = .ok (.iconst (-1), 1) := by decide +kernel
theorem dL_law_906 : decode cL_law 906 = .ok (.if_icmp .ne 170, 3) := by decide +kernel
theorem dL_law_909 : decode cL_law 909 = .ok (.aload_n 1, 1) := by decide +kernel
theorem dL_law_910 : decode cL_law 910 = .ok (.iconst 0, 1) := by decide +kernel
theorem dL_law_911 : decode cL_law 911 = .ok (.iconst 3, 1) := by decide +kernel
theorem dL_law_912 : decode cL_law 912 = .ok (.iconst 1, 1) := by decide +kernel
theorem dL_law_913 : decode cL_law 913 = .ok (.iconst 0, 1) := by decide +kernel
theorem dL_law_914 : decode cL_law 914 = .ok (.iconst 1, 1) := by decide +kernel
theorem dL_law_915 : decode cL_law 915 = .ok (.invokevirtual 23, 3) := by decide +kernel
theorem dL_law_918 : decode cL_law 918 = .ok (.bipush (-2), 2) := by decide +kernel
theorem dL_law_920 : decode cL_law 920 = .ok (.if_icmp .ne 156, 3) := by decide +kernel
theorem dL_law_923 : decode cL_law 923 = .ok (.aload_n 1, 1) := by decide +kernel
theorem dL_law_924 : decode cL_law 924 = .ok (.iconst 0, 1) := by decide +kernel
theorem dL_law_925 : decode cL_law 925 = .ok (.iconst 0, 1) := by decide +kernel
theorem dL_law_926 : decode cL_law 926 = .ok (.iconst 1, 1) := by decide +kernel
theorem dL_law_927 : decode cL_law 927 = .ok (.iconst 5, 1) := by decide +kernel
theorem dL_law_928 : decode cL_law 928 = .ok (.iconst 4, 1) := by decide +kernel
theorem dL_law_929 : decode cL_law 929 = .ok (.invokevirtual 23, 3) := by decide +kernel
theorem dL_law_932 : decode cL_law 932 = .ok (.bipush (-2), 2) := by decide +kernel
theorem dL_law_934 : decode cL_law 934 = .ok (.if_icmp .ne 142, 3) := by decide +kernel
theorem dL_law_937 : decode cL_law 937 = .ok (.aload_n 1, 1) := by decide +kernel
theorem dL_law_938 : decode cL_law 938 = .ok (.bipush 12, 2) := by decide +kernel
theorem dL_law_940 : decode cL_law 940 = .ok (.iconst 0, 1) := by decide +kernel
theorem dL_law_941 : decode cL_law 941 = .ok (.iconst 1, 1) := by decide +kernel
theorem dL_law_942 : decode cL_law 942 = .ok (.iconst 0, 1) := by decide +kernel
theorem dL_law_943 : decode cL_law 943 = .ok (.iconst 1, 1) := by decide +kernel
theorem dL_law_944 : decode cL_law 944 = .ok (.invokevirtual 23, 3) := by decide +kernel
theorem dL_law_947 : decode cL_law 947 = .ok (.iconst (-1), 1) := by decide +kernel
theorem dL_law_948 : decode cL_law 948 = .ok (.if_icmp .ne 128, 3) := by decide +kernel
theorem dL_law_951 : decode cL_law 951 = .ok (.aload_n 1, 1) := by decide +kernel
theorem dL_law_952 : decode cL_law 952 = .ok (.iconst 5, 1) := by decide +kernel
theorem dL_law_953 : decode cL_law 953 = .ok (.iconst 1, 1) := by decide +kernel
theorem dL_law_954 : decode cL_law 954 = .ok (.invokevirtual 27, 3) := by decide +kernel
theorem dL_law_957 : decode cL_law 957 = .ok (.iconst (-1), 1) := by decide +kernel
theorem dL_law_958 : decode cL_law 958 = .ok (.if_icmp .ne 118, 3) := by decide +kernel
theorem dL_law_961 : decode cL_law 961 = .ok (.aload_n 1, 1) := by decide +kernel
theorem dL_law_962 : decode cL_law 962 = .ok (.iconst 1, 1) := by decide +kernel
theorem dL_law_963 : decode cL_law 963 = .ok (.iconst 0, 1) := by decide +kernel
theorem dL_law_964 : decode cL_law 964 = .ok (.invokevirtual 27, 3) := by decide +kernel
theorem dL_law_967 : decode cL_law 967 = .ok (.bipush (-2), 2) := by decide +kernel
theorem dL_law_969 : decode cL_law 969 = .ok (.if_icmp .ne 107, 3) := by decide +kernel
theorem dL_law_972 : decode cL_law 972 = .ok (.aload_n 1, 1) := by decide +kernel
theorem dL_law_973 : decode cL_law 973 = .ok (.iconst 3, 1) := by decide +kernel
theorem dL_law_974 : decode cL_law 974 = .ok (.bipush 13, 2) := by decide +kernel
theorem dL_law_976 : decode cL_law 976 = .ok (.invokevirtual 27, 3) := by decide +kernel
theorem dL_law_979 : decode cL_law 979 = .ok (.bipush (-2), 2) := by decide +kernel
theorem dL_law_981 : decode cL_law 981 = .ok (.if_icmp .ne 95, 3) := by decide +kernel
theorem dL_law_984 : decode cL_law 984 = .ok (.aload_n 1, 1) := by decide +kernel
theorem dL_law_985 : decode cL_law 985 = .ok (.iconst 0, 1) := by decide +kernel
theorem dL_law_986 : decode cL_law 986 = .ok (.iconst 3, 1) := by decide +kernel
theorem dL_law_987 : decode cL_law 987 = .ok (.iconst 1, 1) := by decide +kernel
theorem dL_law_988 : decode cL_law 988 = .ok (.invokevirtual 46, 3) := by decide +kernel
theorem dL_law_991 : decode cL_law 991 = .ok (.bipush (-2), 2) := by decide +kernel
theorem dL_law_993 : decode cL_law 993 = .ok (.if_icmp .ne 83, 3) := by decide +kernel
theorem dL_law_996 : decode cL_law 996 = .ok (.aload_n 1, 1) := by decide +kernel
theorem dL_law_997 : decode cL_law 997 = .ok (.iconst 2, 1) := by decide +kernel
theorem dL_law_998 : decode cL_law 998 = .ok (.iconst 0, 1) := by decide +kernel
theorem dL_law_999 : decode cL_law 999 = .ok (.invokevirtual 54, 3) := by decide +kernel
theorem dL_law_1002 : decode cL_law 1002 = .ok (.bipush (-2), 2) := by decide +kernel
theorem dL_law_1004 : decode cL_law 1004 = .ok (.if_icmp .ne 72, 3) := by decide +kernel
theorem dL_law_1007 : decode cL_law 1007 = .ok (.aload_n 1, 1) := by decide +kernel
theorem dL_law_1008 : decode cL_law 1008 = .ok (.iconst (-1), 1) := by decide +kernel
theorem dL_law_1009 : decode cL_law 1009 = .ok (.iconst 1, 1) := by decide +kernel
theorem dL_law_1010 : decode cL_law 1010 = .ok (.invokevirtual 37, 3) := by decide +kernel
theorem dL_law_1013 : decode cL_law 1013 = .ok (.iconst (-1), 1) := by decide +kernel
theorem dL_law_1014 : decode cL_law 1014 = .ok (.if_icmp .ne 62, 3) := by decide +kernel
theorem dL_law_1017 : decode cL_law 1017 = .ok (.aload_n 1, 1) := by decide +kernel
theorem dL_law_1018 : decode cL_law 1018 = .ok (.iconst 0, 1) := by decide +kernel
theorem dL_law_1019 : decode cL_law 1019 = .ok (.iconst 1, 1) := by decide +kernel
theorem dL_law_1020 : decode cL_law 1020 = .ok (.iconst 5, 1) := by decide +kernel
theorem dL_law_1021 : decode cL_law 1021 = .ok (.invokevirtual 80, 3) := by decide +kernel
theorem dL_law_1024 : decode cL_law 1024 = .ok (.bipush (-2), 2) := by decide +kernel
theorem dL_law_1026 : decode cL_law 1026 = .ok (.if_icmp .ne 50, 3) := by decide +kernel
theorem dL_law_1029 : decode cL_law 1029 = .ok (.aload_n 1, 1) := by decide +kernel
theorem dL_law_1030 : decode cL_law 1030 = .ok (.iconst 0, 1) := by decide +kernel
theorem dL_law_1031 : decode cL_law 1031 = .ok (.iconst 3, 1) := by decide +kernel
theorem dL_law_1032 : decode cL_law 1032 = .ok (.invokevirtual 57, 3) := by decide +kernel
theorem dL_law_1035 : decode cL_law 1035 = .ok (.bipush (-2), 2) := by decide +kernel
theorem dL_law_1037 : decode cL_law 1037 = .ok (.if_icmp .ne 39, 3) := by decide +kernel
theorem dL_law_1040 : decode cL_law 1040 = .ok (.aload_n 1, 1) := by decide +kernel
theorem dL_law_1041 : decode cL_law 1041 = .ok (.iconst 0, 1) := by decide +kernel
theorem dL_law_1042 : decode cL_law 1042 = .ok (.iconst 5, 1) := by decide +kernel
theorem dL_law_1043 : decode cL_law 1043 = .ok (.invokevirtual 40, 3) := by decide +kernel
theorem dL_law_1046 : decode cL_law 1046 = .ok (.bipush (-2), 2) := by decide +kernel
theorem dL_law_1048 : decode cL_law 1048 = .ok (.if_icmp .ne 28, 3) := by decide +kernel
theorem dL_law_1051 : decode cL_law 1051 = .ok (.aload_n 1, 1) := by decide +kernel
theorem dL_law_1052 : decode cL_law 1052 = .ok (.iconst 4, 1) := by decide +kernel
theorem dL_law_1053 : decode cL_law 1053 = .ok (.iconst 0, 1) := by decide +kernel
theorem dL_law_1054 : decode cL_law 1054 = .ok (.invokevirtual 40, 3) := by decide +kernel
theorem dL_law_1057 : decode cL_law 1057 = .ok (.iconst (-1), 1) := by decide +kernel
theorem dL_law_1058 : decode cL_law 1058 = .ok (.if_icmp .ne 18, 3) := by decide +kernel
theorem dL_law_1061 : decode cL_law 1061 = .ok (.aload_n 1, 1) := by decide +kernel
theorem dL_law_1062 : decode cL_law 1062 = .ok (.bipush 17, 2) := by decide +kernel
theorem dL_law_1064 : decode cL_law 1064 = .ok (.invokevirtual 43, 3) := by decide +kernel
theorem dL_law_1067 : decode cL_law 1067 = .ok (.bipush (-2), 2) := by decide +kernel
theorem dL_law_1069 : decode cL_law 1069 = .ok (.if_icmp .ne 7, 3) := by decide +kernel
theorem dL_law_1072 : decode cL_law 1072 = .ok (.iconst 1, 1) := by decide +kernel
theorem dL_law_1073 : decode cL_law 1073 = .ok (.goto 4, 3) := by decide +kernel
theorem dL_law_1076 : decode cL_law 1076 = .ok (.iconst 0, 1) := by decide +kernel
theorem dL_law_1077 : decode cL_law 1077 = .ok (.ireturn, 1) := by decide +kernel
end
section
/-! the memory: rows of ints; the cells of both systems at addresses a i c (group i, cell c); strings at a 9, their bytes at a 10, the two static rows at a 11 -/
abbrev Mem := Nat → Nat → Int32
def zUp (g : Mem) (i : Nat) (v : Nat → Int32) : Mem := fun j => if j = i then v else g j
theorem zUp_s (g : Mem) (i : Nat) (v : Nat → Int32) : zUp g i v i = v := by simp [zUp]
theorem zUp_n (g : Mem) {i j : Nat} (v : Nat → Int32) (h : j ≠ i) : zUp g i v j = g j := by simp [zUp, h]
theorem zUp_u (g : Mem) (i : Nat) (v w : Nat → Int32) : zUp (zUp g i v) i w = zUp g i w := by funext j; by_cases h : j = i <;> simp [zUp, h]
theorem zUp_id (g : Mem) (i : Nat) : zUp g i (g i) = g := by funext j; by_cases h : j = i <;> simp [zUp, h]
theorem zUp_c (g : Mem) {i j : Nat} (v w : Nat → Int32) (h : i ≠ j) : zUp (zUp g i v) j w = zUp (zUp g j w) i v := by
  funext q
  by_cases h1 : q = i <;> by_cases h2 : q = j <;> simp [zUp, h1, h2] <;> omega
theorem zu_s (v : Nat → Int32) (j : Nat) (x : Int32) : upd v j x j = x := by simp [upd]
theorem zu_n (v : Nat → Int32) {i j : Nat} (x : Int32) (h : j ≠ i) : upd v i x j = v j := by simp [upd, h]
/-- a State's cells -/
def zSt (k : Nat → ClassId) (b : Nat → Nat) (v : Nat → Int32) (c : Nat) : va_E :=
  if c = 0 then .inr (3, [.ref (b 1), .ref (b 2), .ref (b 3), .int (v 145), .int (v 146), .int (v 147), .int (v 148), .int (v 149), .int (v 150), .int (v 151)])
  else if c = 1 then .inl (k 2, 4, .inr (.inr (.inr (.inr (fun i => some (b (4 + i)))))))
  else if c = 2 then .inl (k 3, 12, .inr (.inr (.inr (.inr (fun i => some (b (8 + i)))))))
  else if c = 3 then .inl (k 1, 5, .inl (fun j => if j < 5 then v (8 + j) else 0))
  else if c < 8 then .inr (4, [.int (v (c - 4)), .int (v (4 + (c - 4))), .int (v (152 + (c - 4))), .int (v (156 + (c - 4)))])
  else .inr (1, [.int (v (13 + 11 * (c - 8) + 0)), .int (v (13 + 11 * (c - 8) + 8)), .int (v (13 + 11 * (c - 8) + 1)), .int (v (13 + 11 * (c - 8) + 2)), .int (v (13 + 11 * (c - 8) + 3)), .int (v (13 + 11 * (c - 8) + 4)), .int (v (13 + 11 * (c - 8) + 5)), .int (v (13 + 11 * (c - 8) + 10)), .int (v (13 + 11 * (c - 8) + 9)), .int (v (13 + 11 * (c - 8) + 6)), .int (v (13 + 11 * (c - 8) + 7))])
/-- the other cells -/
def zMi (k : Nat → ClassId) (a : Nat → Nat → Nat) (g : Mem) (c : Nat) : va_E :=
  if c = 0 then .inr (5, [.ref (a 0 0), .ref (a 1 0), .ref (a 6 1), .ref (a 6 3), .int (g 6 5)])
  else if c = 1 then .inr (0, [.ref (a 6 2), .int (g 6 0), .int (g 6 1)])
  else if c = 2 then .inl (k 4, 4, .inr (.inr (.inr (.inr (fun i => some (a (2 + i) 0))))))
  else if c = 3 then .inr (2, [.ref (a 6 4), .int (g 6 2), .ref (a 6 5), .ref (a 6 6), .ref (a 6 7), .int (g 6 3), .int (g 6 4)])
  else if c = 4 then .inl (k 0, 80, .inl (g 7))
  else if c = 5 then .inl (k 1, 11, .inl (g 8))
  else if c = 6 then .inl (k 1, 11, .inl (g 9))
  else if c = 7 then .inl (k 1, 11, .inl (g 17))
  else if c = 8 then .inr (6, [.ref (a 6 9), .int (g 18 0), .int (g 18 1), .ref (a 6 10), .int (g 18 2), .int (g 18 3), .int (g 18 4), .int (g 18 5), .int (g 18 6), .int (g 18 7), .int (g 18 8), .int (g 18 9)])
  else if c = 9 then .inl (k 1, 1120, .inl (fun j => if j < 1120 then g (10 + j / 160) (j % 160) else 0))
  else .inl (k 0, 80, .inl (g 19))
def zE (k : Nat → ClassId) (a : Nat → Nat → Nat) (g : Mem) (i c : Nat) : va_E := if i < 6 then zSt k (a i) (g i) c else zMi k a g c
def zW (k : Nat → ClassId) (a : Nat → Nat → Nat) (g : Mem) : va_W := (List.range 128).map (fun i => (a (i / 20) (i % 20), zE k a g (i / 20) (i % 20)))
def zInj (a : Nat → Nat → Nat) : Prop := ∀ i j, i < 128 → j < 128 → a (i / 20) (i % 20) = a (j / 20) (j % 20) → i = j
def zA (a : Nat → Nat → Nat) : Nat → Prop := fun q => ∃ i, i < 128 ∧ q = a (i / 20) (i % 20)
abbrev zTy (k : Nat → ClassId) : List (ClassId × FieldType) := [(k 0, .char), (k 1, .int), (k 2, .object "KeptPlans$Table"), (k 3, .object "KeptPlans$Plan"), (k 4, .object "KeptPlans$State")]
theorem zW_at {k : Nat → ClassId} {a : Nat → Nat → Nat} {g : Mem} {i c : Nat} (hc : c < 20) (h : 20 * i + c < 128) {e : va_E} (he : zE k a g i c = e) : (zW k a g)[20 * i + c]? = some (a i c, e) := by
  subst he
  have h1 : (20 * i + c) / 20 = i := by omega
  have h2 : (20 * i + c) % 20 = c := by omega
  simp only [zW, List.getElem?_map, List.getElem?_range h, Option.map_some, h1, h2]
theorem zW_k {k : Nat → ClassId} {a : Nat → Nat → Nat} {g : Mem} {j : Nat} {q : Nat × va_E} (h : (zW k a g)[j]? = some q) : j < 128 ∧ q = (a (j / 20) (j % 20), zE k a g (j / 20) (j % 20)) := by
  have hl : j < 128 := by
    have := (List.getElem?_eq_some_iff.mp h).1
    simpa [zW] using this
  simp only [zW, List.getElem?_map, List.getElem?_range hl, Option.map_some] at h
  exact ⟨hl, (Option.some.inj h).symm⟩
theorem zW_set {k : Nat → ClassId} {a : Nat → Nat → Nat} {g g' : Mem} {i c : Nat} (hc : c < 20) (h : 20 * i + c < 128) {e : va_E} (he : zE k a g' i c = e) (ho : ∀ j, j < 128 → j ≠ 20 * i + c → zE k a g' (j / 20) (j % 20) = zE k a g (j / 20) (j % 20)) : (zW k a g).set (20 * i + c) (a i c, e) = zW k a g' := by
  subst he
  have h1 : (20 * i + c) / 20 = i := by omega
  have h2 : (20 * i + c) % 20 = c := by omega
  apply List.ext_getElem?
  intro j
  by_cases hj : j = 20 * i + c
  · subst hj
    rw [List.getElem?_set_self (by simpa [zW] using h), zW_at hc h rfl]
  · rw [List.getElem?_set_ne (Ne.symm hj)]
    by_cases hl : j < 128
    · simp only [zW, List.getElem?_map, List.getElem?_range hl, Option.map_some, ho j hl hj]
    · rw [List.getElem?_eq_none (by simp [zW]; omega), List.getElem?_eq_none (by simp [zW]; omega)]
theorem zD {k : Nat → ClassId} {a : Nat → Nat → Nat} {g : Mem} (h : zInj a) : va_D (zA a) (zW k a g) := by
  refine ⟨fun i j p q hi hj hpq => ?_, fun j q hq => ?_⟩
  · obtain ⟨l1, rfl⟩ := zW_k hi
    obtain ⟨l2, rfl⟩ := zW_k hj
    exact h i j l1 l2 hpq
  · obtain ⟨l1, rfl⟩ := zW_k hq
    exact ⟨j, l1, rfl⟩
def zLe (j : Nat) : Int32 := if j = 0 then 0 else 1
def zMo (j : Nat) : Int32 := if j = 0 then 999 else if j = 1 then 20 else if j = 2 then 999 else if j = 3 then 12 else 20
def zLen : List Nat := [3, 1, 4, 3, 4, 1, 1]
def zByt : List (List Int32) := [[107, 101, 121], [115], [115, 112, 97, 110], [116, 111, 112], [114, 111, 119, 115], [32], [59]]
/-- what stands outside the cells: static rows, string constants, words of the nest -/
def zX (a : Nat → Nat → Nat) (U : State) (H : Heap) : Prop :=
  va_Z "KeptPlans" "LEAST_SETTING" "[I" (.ref (a 11 0)) (zA a) U H ∧ va_T .int (a 11 0) 5 (fun j => .int (zLe j)) (zA a) U H ∧
  va_Z "KeptPlans" "MOST_SETTING" "[I" (.ref (a 11 1)) (zA a) U H ∧ va_T .int (a 11 1) 5 (fun j => .int (zMo j)) (zA a) U H ∧
  vk_S 7 zLen zByt (a 9) (a 10) (zA a) U H ∧ va_Z "java/lang/String" "COMPACT_STRINGS" "Z" (.int 1) (zA a) U H ∧ va_Zq "jdk/internal/util/Preconditions" "SIOOBE_FORMATTER" "Ljava/util/function/BiFunction;" (zA a) U H ∧
  va_Nw (.methodLinkNest RX3 68 yX5_bitsOf "KeptPlans") U ∧ va_Nw (.methodLinkNest RX3 82 yX5_quotient "KeptPlans") U ∧
  vk_R RX2 65 "key" (a 9 0) U ∧ vk_R RX2 67 "s" (a 9 1) U ∧ vk_R RX2 59 "span" (a 9 2) U ∧ vk_R RX2 61 "top" (a 9 3) U ∧ vk_R RX2 63 "rows" (a 9 4) U ∧ vk_R RX2 69 " " (a 9 5) U ∧ vk_R RX2 39 ";" (a 9 6) U
theorem zX.go {a : Nat → Nat → Nat} {s U : State} {H H0 : Heap} (h : zX a s H0) (hW : s.WarmedH U.vm) (hq : ∀ q : Nat, q < H0.size → ¬ zA a q → H[q]? = H0[q]?) : zX a U H := by
  obtain ⟨h1, h2, h3, h4, h5, h6, h7, h8, h9, r1, r2, r3, r4, r5, r6, r7⟩ := h
  have hv := hW.alike
  exact ⟨(h1.moved hv).kept hq, (h2.moved hv).kept hq, (h3.moved hv).kept hq, (h4.moved hv).kept hq, (h5.moved hv).kept hq, (h6.moved hv).kept hq, (h7.moved hv).kept hq, va_Nw.warmM hW h8, va_Nw.warmM hW h9, r1.warm hW, r2.warm hW, r3.warm hW, r4.warm hW, r5.warm hW, r6.warm hW, r7.warm hW⟩
theorem zX.same {a : Nat → Nat → Nat} {u U : State} {H : Heap} (h : zX a u H) (hv : U.vm = u.vm) : zX a U H := by
  obtain ⟨h1, h2, h3, h4, h5, h6, h7, h8, h9, r1, r2, r3, r4, r5, r6, r7⟩ := h
  have hv' : u.vm.Alike U.vm := by rw [hv]; exact Vm.Alike.refl _
  exact ⟨h1.moved hv', h2.moved hv', h3.moved hv', h4.moved hv', h5.moved hv', h6.moved hv', h7.moved hv', va_Nw.same rfl hv.symm h8, va_Nw.same rfl hv.symm h9, r1.same hv, r2.same hv, r3.same hv, r4.same hv, r5.same hv, r6.same hv, r7.same hv⟩
/-- a method's start -/
def zPc (D : va_G) (k : Nat → ClassId) (a : Nat → Nat → Nat) (g : Mem) (U : State) : Prop := va_P D vwCl (zW k a g) U.heap ∧ va_K D vwCl (zTy k) U ∧ zInj a ∧ zX a U U.heap
theorem zPc.blind {D : va_G} {k : Nat → ClassId} {a : Nat → Nat → Nat} {g : Mem} {As : List Value} : FrameBlind (va_Pc As (zPc D k a g)) := by
  rintro v U f mk ⟨h0, h1, h2, h3, h4⟩
  exact ⟨h0, h1, va_K.moved (u := U) (U := U.calling f mk v) (Vm.Alike.refl U.vm) h2, h3, zX.same h4 rfl⟩
/-- the heap inside a method: the cells as g has them, all else as at its start -/
def zH (D : va_G) (k : Nat → ClassId) (a : Nat → Nat → Nat) (s : State) (g : Mem) (H : Heap) (locs : List Loc) : Prop := va_P D vwCl (zW k a g) H ∧ va_S (zA a) s.heap H locs
/-- what stands fast inside a method -/
def zC (p : Program) (m : MethodId) (c : Code) (cc : ByteArray) (nL : Nat) (s : State) (args : Array Value) (own : String) (D : va_G) (k : Nat → ClassId) (a : Nat → Nat → Nat) : Prop :=
  CallFix p m c cc nL s args GW own ∧ va_K D vwCl (zTy k) s ∧ zInj a ∧ zX a s s.heap
abbrev zRoom (fr lo : Nat) : Room := { frames := fr, cells := 0, slots := 0, locals := lo }
/-- contracts: an int (or boolean, char) comes back, with what 'post' says of it and of the memory -/
def zI (l : Launch) (y : MethodName) (b : ByteArray) (n : Nat) (ret : FieldType) (fr lo : Nat) (D : va_G) (k : Nat → ClassId) (a : Nat → Nat → Nat) (As : List Value) (g : Mem) (post : Int32 → Mem → Prop) : Prop :=
  Met l y (.code y b n (some ret) :: GW) (zRoom fr lo) (va_Pc As (zPc D k a g)) (va_Qi post (fun g2 t => va_P D vwCl (zW k a g2) t.heap) (zA a)) 0 0 (zA a)
def zV (l : Launch) (y : MethodName) (b : ByteArray) (n : Nat) (fr lo : Nat) (D : va_G) (k : Nat → ClassId) (a : Nat → Nat → Nat) (As : List Value) (g : Mem) (post : Mem → Prop) : Prop :=
  Met l y (.code y b n none :: GW) (zRoom fr lo) (va_Pc As (zPc D k a g)) (va_Qv post (fun g2 t => va_P D vwCl (zW k a g2) t.heap) (zA a)) 0 0 (zA a)
def zR (l : Launch) (y : MethodName) (b : ByteArray) (n : Nat) (ret : FieldType) (fr lo : Nat) (D : va_G) (k : Nat → ClassId) (a : Nat → Nat → Nat) (As : List Value) (g : Mem) (ad : Nat) : Prop :=
  Met l y (.code y b n (some ret) :: GW) (zRoom fr lo) (va_Pc As (zPc D k a g)) (va_Qr (fun _ : Unit => True) (fun _ ra t => ra = ad ∧ va_P D vwCl (zW k a g) t.heap) (zA a)) 0 0 (zA a)
theorem zGood {y y' : MethodName} {b b' : ByteArray} {n n' : Nat} {r r' : Option FieldType} (h : Cond.code y' b' n' r' ∈ GW) : GoodIn GW (.code y' b' n' r' :: GW) := by
  intro w hw
  rcases List.mem_cons.mp hw with rfl | hw
  · exact ⟨h, good_of_word (gw_good _ h)⟩
  · exact ⟨hw, good_of_word (gw_good _ hw)⟩
section ZE
variable {l : Launch} {y : MethodName} {b : ByteArray} {n fr lo : Nat} {ret : FieldType} {D : va_G} {k : Nat → ClassId} {a : Nat → Nat → Nat} {As : List Value} {g : Mem} {own : String}
theorem zI_of {post : Int32 → Mem → Prop} (hy : plainName own = true) (ho : y.cls = own) (hn : (lg_sl As).length ≤ n)
    (body : ∀ {p : Program} {e : Env} {s : State} {m : MethodId} {args : Array Value} {below : List Frame} {meth : Method} {c : Code} (X : zC p m c b n s args own D k a) (Q : State → Prop)
      (hret : ∀ (r : Int32) (g' : Mem) (H : Heap) (locs : List Loc) (pc : Nat) (ls : Array Slot), narrow ret (.int r) = .int r → post r g' → zH D k a s g' H locs → decode b pc = .ok (.ireturn, 1) → W p l e (zRoom fr lo) s m args below meth c H locs 0 0 Q (F0 m pc ls [.int r]))
      (hH : zH D k a s g s.heap []) (ls : Array Slot) (hl : lv_has ls n (lv_args 0 As)), W p l e (zRoom fr lo) s m args below meth c s.heap [] 0 0 Q (F0 m 0 ls [])) : zI l y b n ret fr lo D k a As g post := by
  refine Met.ofW (cc := b) (maxL := n) (ret := some ret) (by rw [ho]; exact hy) rfl ?_
  intro p e s m args below meth c s₁ B hml hv
  obtain ⟨rfl, hP, hK, hI, hX⟩ := hv
  have hts := atoms_spec (ws := .code y b n (some ret) :: GW) B.pre
  have hown : s.vm.findClass own = some m.cls := by rw [← ho]; exact findClass_of_methodNamed B.named
  have hl := lv_entry As (n := n) hn
  rw [lg_entry_eq]
  have hlocks := B.notSynchronized
  exact body ⟨⟨B.exec, B.bytes, hml, hown, fun w hw => hts w (List.mem_cons_of_mem _ hw)⟩, hK, hI, hX⟩ _
    (fun r g' H locs pc ls h1 h2 h3 h4 => W.zret B.exec B.bytes B.returns h1 (fun t ht hW => ⟨⟨r, g', rfl, h2, (show va_P D vwCl (zW k a _) t.heap by rw [ht]; exact h3.1)⟩, h3.2.F ht⟩) h3.2.2.2 h4)
    ⟨hP, va_S.rf⟩ _ hl
theorem zV_of {post : Mem → Prop} (hy : plainName own = true) (ho : y.cls = own) (hn : (lg_sl As).length ≤ n)
    (body : ∀ {p : Program} {e : Env} {s : State} {m : MethodId} {args : Array Value} {below : List Frame} {meth : Method} {c : Code} (X : zC p m c b n s args own D k a) (Q : State → Prop)
      (hret : ∀ (g' : Mem) (H : Heap) (locs : List Loc) (pc : Nat) (ls : Array Slot), post g' → zH D k a s g' H locs → decode b pc = .ok (.return_, 1) → W p l e (zRoom fr lo) s m args below meth c H locs 0 0 Q (F0 m pc ls []))
      (hH : zH D k a s g s.heap []) (ls : Array Slot) (hl : lv_has ls n (lv_args 0 As)), W p l e (zRoom fr lo) s m args below meth c s.heap [] 0 0 Q (F0 m 0 ls [])) : zV l y b n fr lo D k a As g post := by
  refine Met.ofW (cc := b) (maxL := n) (ret := none) (by rw [ho]; exact hy) rfl ?_
  intro p e s m args below meth c s₁ B hml hv
  obtain ⟨rfl, hP, hK, hI, hX⟩ := hv
  have hts := atoms_spec (ws := .code y b n none :: GW) B.pre
  have hown : s.vm.findClass own = some m.cls := by rw [← ho]; exact findClass_of_methodNamed B.named
  have hl := lv_entry As (n := n) hn
  rw [lg_entry_eq]
  have hlocks := B.notSynchronized
  exact body ⟨⟨B.exec, B.bytes, hml, hown, fun w hw => hts w (List.mem_cons_of_mem _ hw)⟩, hK, hI, hX⟩ _
    (fun g' H locs pc ls h2 h3 h4 => W.vret B.exec B.bytes B.returns (fun t ht hW => ⟨⟨g', rfl, h2, (show va_P D vwCl (zW k a _) t.heap by rw [ht]; exact h3.1)⟩, h3.2.F ht⟩) h3.2.2.2 h4)
    ⟨hP, va_S.rf⟩ _ hl
theorem zR_of {ad : Nat} (hrt : ∃ C, ret = .object C) (hy : plainName own = true) (ho : y.cls = own) (hn : (lg_sl As).length ≤ n)
    (body : ∀ {p : Program} {e : Env} {s : State} {m : MethodId} {args : Array Value} {below : List Frame} {meth : Method} {c : Code} (X : zC p m c b n s args own D k a) (Q : State → Prop)
      (hret : ∀ (H : Heap) (locs : List Loc) (pc : Nat) (ls : Array Slot), zH D k a s g H locs → decode b pc = .ok (.areturn, 1) → W p l e (zRoom fr lo) s m args below meth c H locs 0 0 Q (F0 m pc ls [.ref ad]))
      (hH : zH D k a s g s.heap []) (ls : Array Slot) (hl : lv_has ls n (lv_args 0 As)), W p l e (zRoom fr lo) s m args below meth c s.heap [] 0 0 Q (F0 m 0 ls [])) : zR l y b n ret fr lo D k a As g ad := by
  refine Met.ofW (cc := b) (maxL := n) (ret := some ret) (by rw [ho]; exact hy) rfl ?_
  intro p e s m args below meth c s₁ B hml hv
  obtain ⟨rfl, hP, hK, hI, hX⟩ := hv
  have hts := atoms_spec (ws := .code y b n (some ret) :: GW) B.pre
  have hown : s.vm.findClass own = some m.cls := by rw [← ho]; exact findClass_of_methodNamed B.named
  have hl := lv_entry As (n := n) hn
  rw [lg_entry_eq]
  have hlocks := B.notSynchronized
  exact body ⟨⟨B.exec, B.bytes, hml, hown, fun w hw => hts w (List.mem_cons_of_mem _ hw)⟩, hK, hI, hX⟩ _
    (fun H locs pc ls h3 h4 => W.aret B.exec B.bytes B.returns (Or.inl hrt) (Or.inr ⟨_, rfl⟩) (fun t ht hW => ⟨⟨(), ad, rfl, trivial, rfl, by rw [ht]; exact h3.1⟩, h3.2.F ht⟩) h3.2.2.2 h4)
    ⟨hP, va_S.rf⟩ _ hl
end ZE
end
section
/-! rows over the memory -/
section ZR
variable {p : Program} {l : Launch} {e : Env} {R : Room} {s : State} {m : MethodId} {args : Array Value} {below : List Frame} {meth : Method} {c : Code} {H : Heap} {locs : List Loc} {cells slots : Nat} {Q : State → Prop}
variable {cc : ByteArray} {nL : Nat} {own : String} {pc : Nat} {ls : Array Slot} {rest : List Value} {D : va_G} {k : Nat → ClassId} {a : Nat → Nat → Nat} {g : Mem}
theorem z_get (X : zC p m c cc nL s args own D k a) (hH : zH D k a s g H locs) {i q ci idx : Nat} {fs : List Value} {C ref : String} {T : u_T} {N : Nat} (hq : q < 20) (h : 20 * i + q < 128) (hE : zE k a g i q = .inr (ci, fs)) (hcl : vwCl[ci]? = some (C, T, N)) (hin : ∀ w ∈ u_ws C T N, w ∈ GW) (f : Nat) (hf : f < N) (hr : (T f).1 = ref) (hl : .fieldLink own idx ref (T f).2.1 (T f).2.2.1 ∈ GW) {v : Value} (hv : fs[f]? = some v) (hdg : decode cc pc = .ok (.getfield idx, 3))
    (kk : W p l e R s m args below meth c H locs cells slots Q (F0 m (pc + 3) ls (v :: rest))) : W p l e R s m args below meth c H locs cells slots Q (F0 m pc ls (.ref (a i q) :: rest)) := by
  obtain ⟨⟨hx, hb, hml, hown, hts⟩, hK, hI, hX⟩ := X
  exact va_get hx hb hts hin hown hK hH.1 (20 * i + q) (zW_at hq h hE) hcl f hf (hts _ hl) (fun x hx => by rw [← hr]; exact hx) hv hdg kk
theorem z_put (X : zC p m c cc nL s args own D k a) (hH : zH D k a s g H locs) {i q ci idx : Nat} {fs : List Value} {C ref : String} {T : u_T} {N : Nat} (hq : q < 20) (h : 20 * i + q < 128) (hE : zE k a g i q = .inr (ci, fs)) (hcl : vwCl[ci]? = some (C, T, N)) (hin : ∀ w ∈ u_ws C T N, w ∈ GW) (ty0 : Nat → FieldType) (hty : ∀ k, k < N → parseFieldDescriptor (T k).2.2.1 = some (ty0 k)) (hnm : ∀ a, a < N → ∀ b, b < N → a ≠ b → (T a).2.1 ≠ (T b).2.1) (f : Nat) (hf : f < N) (hr : (T f).1 = ref) (hl : .fieldLink own idx ref (T f).2.1 (T f).2.2.1 ∈ GW) (hfin : (T f).2.2.2 = false) {ty : FieldType} {v : Value} (hd : parseFieldDescriptor (T f).2.2.1 = some ty) (hn : narrow ty v = v) (hfit : fits ty v = true) (hlen : f < fs.length)
    (g' : Mem) (hE' : zE k a g' i q = .inr (ci, fs.set f v)) (ho : ∀ j, j < 128 → j ≠ 20 * i + q → zE k a g' (j / 20) (j % 20) = zE k a g (j / 20) (j % 20))
    (hdg : decode cc pc = .ok (.putfield idx, 3))
    (kk : ∀ (H1 : Heap) (locs1 : List Loc), zH D k a s g' H1 locs1 → W p l e R s m args below meth c H1 locs1 cells slots Q (F0 m (pc + 3) ls rest)) : W p l e R s m args below meth c H locs cells slots Q (F0 m pc ls (v :: .ref (a i q) :: rest)) := by
  obtain ⟨⟨hx, hb, hml, hown, hts⟩, hK, hI, hX⟩ := X
  refine va_put hx hb hts hin ty0 hty hnm hown hK hH.1 (zD hI) hH.2 (20 * i + q) (zW_at hq h hE) hcl f hf (hts _ hl) (fun x hx => by rw [← hr]; exact hx) hfin hd hn hfit hlen hdg (fun H1 locs1 hP hD hS => ?_)
  rw [zW_set hq h hE' ho] at hP
  exact kk H1 locs1 ⟨hP, hS⟩
theorem z_vpin {j n : Nat} (h : j < n) (hn : n < 2 ^ 31) : vp_in (nI j) n := vp_in_nI h hn
theorem z_cl {j n : Nat} (h : j < n) (hn : n < 2 ^ 31) : (nI j).toNatClampNeg = j := nI_clamp (by omega)
/-- an int row read -/
theorem z_iald (X : zC p m c cc nL s args own D k a) (hH : zH D k a s g H locs) {i q n : Nat} {f : Nat → Int32} (hq : q < 20) (h : 20 * i + q < 128) (hE : zE k a g i q = .inl (k 1, n, .inl f)) (hn : n < 2 ^ 31) (j : Nat) (hj : j < n) (hdg : decode cc pc = .ok (.iaload, 1))
    (kk : W p l e R s m args below meth c H locs cells slots Q (F0 m (pc + 1) ls (.int (f j) :: rest))) : W p l e R s m args below meth c H locs cells slots Q (F0 m pc ls (.int (nI j) :: .ref (a i q) :: rest)) := by
  obtain ⟨⟨hx, hb, hml, hown, hts⟩, hK, hI, hX⟩ := X
  refine va_iald hx hb hK hH.1 (20 * i + q) 1 (zW_at hq h hE) rfl (z_vpin hj hn) hdg ?_
  rw [z_cl hj hn]
  exact kk
theorem z_cald (X : zC p m c cc nL s args own D k a) (hH : zH D k a s g H locs) {i q n : Nat} {f : Nat → Int32} (hq : q < 20) (h : 20 * i + q < 128) (hE : zE k a g i q = .inl (k 0, n, .inl f)) (hn : n < 2 ^ 31) (j : Nat) (hj : j < n) (hdg : decode cc pc = .ok (.caload, 1))
    (kk : W p l e R s m args below meth c H locs cells slots Q (F0 m (pc + 1) ls (.int (f j) :: rest))) : W p l e R s m args below meth c H locs cells slots Q (F0 m pc ls (.int (nI j) :: .ref (a i q) :: rest)) := by
  obtain ⟨⟨hx, hb, hml, hown, hts⟩, hK, hI, hX⟩ := X
  refine va_cald hx hb hK hH.1 (20 * i + q) 0 (zW_at hq h hE) rfl (z_vpin hj hn) hdg ?_
  rw [z_cl hj hn]
  exact kk
theorem z_aald (X : zC p m c cc nL s args own D k a) (hH : zH D k a s g H locs) {i q n t0 : Nat} {C : String} {f : Nat → Option Nat} (hq : q < 20) (h : 20 * i + q < 128) (hE : zE k a g i q = .inl (k t0, n, .inr (.inr (.inr (.inr f))))) (ht : (zTy k)[t0]? = some (k t0, .object C)) (hn : n < 2 ^ 31) (j : Nat) (hj : j < n) {ad : Nat} (hf : f j = some ad) (hdg : decode cc pc = .ok (.aaload, 1))
    (kk : W p l e R s m args below meth c H locs cells slots Q (F0 m (pc + 1) ls (.ref ad :: rest))) : W p l e R s m args below meth c H locs cells slots Q (F0 m pc ls (.int (nI j) :: .ref (a i q) :: rest)) := by
  obtain ⟨⟨hx, hb, hml, hown, hts⟩, hK, hI, hX⟩ := X
  refine va_aldq hx hb hK hH.1 (20 * i + q) t0 (zW_at hq h hE) ht (z_vpin hj hn) hdg ?_
  rw [z_cl hj hn, hf]
  exact kk
theorem z_iast (X : zC p m c cc nL s args own D k a) (hH : zH D k a s g H locs) {i q n : Nat} {f : Nat → Int32} (hq : q < 20) (h : 20 * i + q < 128) (hE : zE k a g i q = .inl (k 1, n, .inl f)) (hn : n < 2 ^ 31) (j : Nat) (hj : j < n) {x : Int32} (g' : Mem) (hE' : zE k a g' i q = .inl (k 1, n, .inl (upd f j x))) (ho : ∀ j, j < 128 → j ≠ 20 * i + q → zE k a g' (j / 20) (j % 20) = zE k a g (j / 20) (j % 20)) (hdg : decode cc pc = .ok (.iastore, 1))
    (kk : ∀ (H1 : Heap) (locs1 : List Loc), zH D k a s g' H1 locs1 → W p l e R s m args below meth c H1 locs1 cells slots Q (F0 m (pc + 1) ls rest)) : W p l e R s m args below meth c H locs cells slots Q (F0 m pc ls (.int x :: .int (nI j) :: .ref (a i q) :: rest)) := by
  obtain ⟨⟨hx, hb, hml, hown, hts⟩, hK, hI, hX⟩ := X
  refine va_iast hx hb hK hH.1 (zD hI) hH.2 (20 * i + q) 1 (zW_at hq h hE) rfl (z_vpin hj hn) hdg (fun H1 locs1 hP hD hS => ?_)
  rw [z_cl hj hn, zW_set hq h hE' ho] at hP
  exact kk H1 locs1 ⟨hP, hS⟩
theorem z_cast (X : zC p m c cc nL s args own D k a) (hH : zH D k a s g H locs) {i q n : Nat} {f : Nat → Int32} (hq : q < 20) (h : 20 * i + q < 128) (hE : zE k a g i q = .inl (k 0, n, .inl f)) (hn : n < 2 ^ 31) (j : Nat) (hj : j < n) {x : Int32} (hx : vp_nar .char x = x) (g' : Mem) (hE' : zE k a g' i q = .inl (k 0, n, .inl (upd f j x))) (ho : ∀ j, j < 128 → j ≠ 20 * i + q → zE k a g' (j / 20) (j % 20) = zE k a g (j / 20) (j % 20)) (hdg : decode cc pc = .ok (.castore, 1))
    (kk : ∀ (H1 : Heap) (locs1 : List Loc), zH D k a s g' H1 locs1 → W p l e R s m args below meth c H1 locs1 cells slots Q (F0 m (pc + 1) ls rest)) : W p l e R s m args below meth c H locs cells slots Q (F0 m pc ls (.int x :: .int (nI j) :: .ref (a i q) :: rest)) := by
  obtain ⟨⟨hx', hb, hml, hown, hts⟩, hK, hI, hX⟩ := X
  refine va_cast hx' hb hK hH.1 (zD hI) hH.2 (20 * i + q) 0 (zW_at hq h hE) rfl (z_vpin hj hn) hdg (fun H1 locs1 hP hD hS => ?_)
  rw [z_cl hj hn, hx, zW_set hq h hE' ho] at hP
  exact kk H1 locs1 ⟨hP, hS⟩
theorem z_recv (X : zC p m c cc nL s args own D k a) (hH : zH D k a s g H locs) {i q ci : Nat} {fs : List Value} {C : String} {T : u_T} {N : Nat} (hq : q < 20) (h : 20 * i + q < 128) (hE : zE k a g i q = .inr (ci, fs)) (hcl : vwCl[ci]? = some (C, T, N)) : ∃ cell : Cell, H[a i q]? = some cell ∧ cell.vm.isStatics = false ∧ s.vm.findClass C = some cell.cls :=
  va_recv X.2.1 hH.1 hcl (zW_at hq h hE)
/-! what a write leaves alone -/
theorem zE_st {g g' : Mem} {i : Nat} (hi : i < 6) (hu : ∀ j, j ≠ i → g' j = g j) {q : Nat} (hs : ∀ r, r < 20 → r ≠ q → zSt k (a i) (g' i) r = zSt k (a i) (g i) r) : ∀ j, j < 128 → j ≠ 20 * i + q → zE k a g' (j / 20) (j % 20) = zE k a g (j / 20) (j % 20) := by
  intro j hj hne
  unfold zE
  by_cases h6 : j / 20 < 6
  · rw [if_pos h6, if_pos h6]
    by_cases h1 : j / 20 = i
    · rw [h1]
      exact hs _ (by omega) (by omega)
    · rw [hu _ h1]
  · rw [if_neg h6, if_neg h6]
    unfold zMi
    simp only [hu 6 (by omega), hu 7 (by omega), hu 8 (by omega), hu 9 (by omega), hu 17 (by omega), hu 18 (by omega), hu 19 (by omega)]
    have e : (fun j => if j < 1120 then g' (10 + j / 160) (j % 160) else 0) = (fun j => if j < 1120 then g (10 + j / 160) (j % 160) else 0) := by
      funext z
      rw [hu _ (by omega)]
    rw [e]
theorem zE_mi {g g' : Mem} {q : Nat} (hu : ∀ j, j < 6 → g' j = g j) (hm : ∀ r, r < 11 → r ≠ q → zMi k a g' r = zMi k a g r) : ∀ j, j < 128 → j ≠ 20 * 6 + q → zE k a g' (j / 20) (j % 20) = zE k a g (j / 20) (j % 20) := by
  intro j hj hne
  unfold zE
  by_cases h6 : j / 20 < 6
  · rw [if_pos h6, if_pos h6, hu _ h6]
  · rw [if_neg h6, if_neg h6]
    exact hm _ (by omega) (by omega)
/-- whose cell a slot of a state's row stands in -/
def zOwn (j : Nat) : Nat := if j < 4 then 4 + j else if j < 8 then j else if j < 13 then 3 else if j < 145 then 8 + (j - 13) / 11 else if j < 152 then 0 else if j < 156 then j - 148 else j - 152
theorem zo_0 {j : Nat} (h1 : 145 ≤ j) (h2 : j ≤ 151) : zOwn j = 0 := by
  unfold zOwn
  rw [if_neg (by omega), if_neg (by omega), if_neg (by omega), if_neg (by omega), if_pos (by omega)]
theorem zo_3 {j : Nat} (h1 : 8 ≤ j) (h2 : j < 13) : zOwn j = 3 := by
  unfold zOwn
  rw [if_neg (by omega), if_neg (by omega), if_pos (by omega)]
theorem zo_a {t : Nat} (h : t < 4) : zOwn t = 4 + t := by
  unfold zOwn
  rw [if_pos (by omega)]
theorem zo_b {t : Nat} (h : t < 4) : zOwn (4 + t) = 4 + t := by
  unfold zOwn
  rw [if_neg (by omega), if_pos (by omega)]
theorem zo_c {t : Nat} (h : t < 4) : zOwn (152 + t) = 4 + t := by
  unfold zOwn
  rw [if_neg (by omega), if_neg (by omega), if_neg (by omega), if_neg (by omega), if_neg (by omega), if_pos (by omega)]
  omega
theorem zo_d {t : Nat} (h : t < 4) : zOwn (156 + t) = 4 + t := by
  unfold zOwn
  rw [if_neg (by omega), if_neg (by omega), if_neg (by omega), if_neg (by omega), if_neg (by omega), if_neg (by omega)]
  omega
theorem zo_p {s o : Nat} (h : s < 12) (ho : o < 11) : zOwn (13 + 11 * s + o) = 8 + s := by
  unfold zOwn
  rw [if_neg (by omega), if_neg (by omega), if_neg (by omega), if_pos (by omega)]
  omega
theorem zSt_o {b : Nat → Nat} {v : Nat → Int32} {j r : Nat} {x : Int32} (hr : r < 20) (hne : r ≠ zOwn j) : zSt k b (upd v j x) r = zSt k b v r := by
  have e : ∀ i, zOwn i = r → upd v j x i = v i := fun i hi => zu_n v x (fun q => hne (by rw [← q]; exact hi.symm))
  unfold zSt
  by_cases h0 : r = 0
  · subst h0
    rw [if_pos rfl, if_pos rfl, e 145 (zo_0 (by omega) (by omega)), e 146 (zo_0 (by omega) (by omega)), e 147 (zo_0 (by omega) (by omega)), e 148 (zo_0 (by omega) (by omega)), e 149 (zo_0 (by omega) (by omega)), e 150 (zo_0 (by omega) (by omega)), e 151 (zo_0 (by omega) (by omega))]
  · rw [if_neg h0, if_neg h0]
    by_cases h1 : r = 1
    · subst h1
      rfl
    · rw [if_neg h1, if_neg h1]
      by_cases h2 : r = 2
      · subst h2
        rfl
      · rw [if_neg h2, if_neg h2]
        by_cases h3 : r = 3
        · subst h3
          have e2 : (fun i => if i < 5 then upd v j x (8 + i) else 0) = (fun i => if i < 5 then v (8 + i) else 0) := by
            funext i
            by_cases hi : i < 5
            · rw [if_pos hi, if_pos hi, e _ (zo_3 (by omega) (by omega))]
            · rw [if_neg hi, if_neg hi]
          rw [if_pos rfl, if_pos rfl, e2]
        · rw [if_neg h3, if_neg h3]
          by_cases h4 : r < 8
          · have ht : r - 4 < 4 := by omega
            rw [if_pos h4, if_pos h4, e (r - 4) ((zo_a ht).trans (by omega)), e (4 + (r - 4)) ((zo_b ht).trans (by omega)), e (152 + (r - 4)) ((zo_c ht).trans (by omega)), e (156 + (r - 4)) ((zo_d ht).trans (by omega))]
          · have ht : r - 8 < 12 := by omega
            have ep : ∀ o, o < 11 → upd v j x (13 + 11 * (r - 8) + o) = v (13 + 11 * (r - 8) + o) := fun o ho => e _ ((zo_p ht ho).trans (by omega))
            rw [if_neg h4, if_neg h4, ep 0 (by omega), ep 1 (by omega), ep 2 (by omega), ep 3 (by omega), ep 4 (by omega), ep 5 (by omega), ep 6 (by omega), ep 7 (by omega), ep 8 (by omega), ep 9 (by omega), ep 10 (by omega)]
theorem z_ho {i j : Nat} {x : Int32} (hi : i < 6) {q : Nat} (hq : zOwn j = q) : ∀ r, r < 128 → r ≠ 20 * i + q → zE k a (zUp g i (upd (g i) j x)) (r / 20) (r % 20) = zE k a g (r / 20) (r % 20) :=
  zE_st hi (fun r hr => zUp_n g _ hr) (fun r hr hne => by rw [zUp_s]; exact zSt_o hr (by rw [hq]; exact hne))
theorem zE_plan {i s : Nat} (hi : i < 6) : zE k a g i (8 + s) = .inr (1, [.int (g i (13 + 11 * s + 0)), .int (g i (13 + 11 * s + 8)), .int (g i (13 + 11 * s + 1)), .int (g i (13 + 11 * s + 2)), .int (g i (13 + 11 * s + 3)), .int (g i (13 + 11 * s + 4)), .int (g i (13 + 11 * s + 5)), .int (g i (13 + 11 * s + 10)), .int (g i (13 + 11 * s + 9)), .int (g i (13 + 11 * s + 6)), .int (g i (13 + 11 * s + 7))]) := by
  unfold zE zSt
  rw [if_pos hi, if_neg (by omega), if_neg (by omega), if_neg (by omega), if_neg (by omega), if_neg (by omega), show 8 + s - 8 = s by omega]
theorem zE_table {i t : Nat} (hi : i < 6) (ht : t < 4) : zE k a g i (4 + t) = .inr (4, [.int (g i t), .int (g i (4 + t)), .int (g i (152 + t)), .int (g i (156 + t))]) := by
  unfold zE zSt
  rw [if_pos hi, if_neg (by omega), if_neg (by omega), if_neg (by omega), if_neg (by omega), if_pos (by omega), show 4 + t - 4 = t by omega]
theorem zE_state {i : Nat} (hi : i < 6) : zE k a g i 0 = .inr (3, [.ref (a i 1), .ref (a i 2), .ref (a i 3), .int (g i 145), .int (g i 146), .int (g i 147), .int (g i 148), .int (g i 149), .int (g i 150), .int (g i 151)]) := by
  unfold zE zSt
  rw [if_pos hi, if_pos rfl]
theorem zE_tabs {i : Nat} (hi : i < 6) : zE k a g i 1 = .inl (k 2, 4, .inr (.inr (.inr (.inr (fun j => some (a i (4 + j))))))) := by
  unfold zE zSt
  rw [if_pos hi, if_neg (by omega), if_pos rfl]
theorem zE_plans {i : Nat} (hi : i < 6) : zE k a g i 2 = .inl (k 3, 12, .inr (.inr (.inr (.inr (fun j => some (a i (8 + j))))))) := by
  unfold zE zSt
  rw [if_pos hi, if_neg (by omega), if_neg (by omega), if_pos rfl]
theorem zE_sets {i : Nat} (hi : i < 6) : zE k a g i 3 = .inl (k 1, 5, .inl (fun j => if j < 5 then g i (8 + j) else 0)) := by
  unfold zE zSt
  rw [if_pos hi, if_neg (by omega), if_neg (by omega), if_neg (by omega), if_pos rfl]
theorem zE_m {q : Nat} : zE k a g 6 q = zMi k a g q := by
  unfold zE
  rw [if_neg (by omega)]
theorem zMi_9 {g g' : Mem} (h : ∀ j, 10 ≤ j → j < 17 → g' j = g j) : zMi k a g' 9 = zMi k a g 9 := by
  have e : (fun j => if j < 1120 then g' (10 + j / 160) (j % 160) else 0) = (fun j => if j < 1120 then g (10 + j / 160) (j % 160) else 0) := by
    funext j
    by_cases hj : j < 1120
    · rw [if_pos hj, if_pos hj, h _ (by omega) (by omega)]
    · rw [if_neg hj, if_neg hj]
  have h9 : ∀ g : Mem, zMi k a g 9 = .inl (k 1, 1120, .inl (fun j => if j < 1120 then g (10 + j / 160) (j % 160) else 0)) := fun _ => rfl
  rw [h9, h9, e]

theorem gf_X1_kept (X : zC p m c cc nL s args own D k a) (hH : zH D k a s g H locs) {i t : Nat} (hi : i < 6) (ht : t < 12) {idx : Nat} (hl : .fieldLink own idx "KeptPlans$Plan" "kept" "Z" ∈ GW) (hdg : decode cc pc = .ok (.getfield idx, 3))
    (kk : W p l e R s m args below meth c H locs cells slots Q (F0 m (pc + 3) ls (.int (g i (13 + 11 * t + 0)) :: rest))) : W p l e R s m args below meth c H locs cells slots Q (F0 m pc ls (.ref (a i (8 + t)) :: rest)) :=
  z_get X hH (C := RX1) (T := TX1) (N := 11) (by omega) (by omega) (zE_plan hi) rfl inX1 0 (by omega) rfl hl rfl hdg kk
theorem pf_X1_kept (X : zC p m c cc nL s args own D k a) (hH : zH D k a s g H locs) {i t : Nat} (hi : i < 6) (ht : t < 12) {idx : Nat} {x : Int32} (hx : x = 0 ∨ x = 1) (hl : .fieldLink own idx "KeptPlans$Plan" "kept" "Z" ∈ GW) (hdg : decode cc pc = .ok (.putfield idx, 3))
    (kk : ∀ (H1 : Heap) (locs1 : List Loc), zH D k a s (zUp g i (upd (g i) (13 + 11 * t + 0) x)) H1 locs1 → W p l e R s m args below meth c H1 locs1 cells slots Q (F0 m (pc + 3) ls rest)) : W p l e R s m args below meth c H locs cells slots Q (F0 m pc ls (.int x :: .ref (a i (8 + t)) :: rest)) :=
  z_put X hH (C := RX1) (T := TX1) (N := 11) (by omega) (by omega) (zE_plan hi) rfl inX1 tyX1 tyX1_ok nmX1 0 (by omega) rfl hl rfl (ty := .boolean) (by decide +kernel) (by rcases hx with rfl | rfl <;> rfl) (by rcases hx with rfl | rfl <;> rfl) (by simp [zMi]) (zUp g i (upd (g i) (13 + 11 * t + 0) x)) (by rw [zE_plan hi]; simp [zUp, upd]) (z_ho hi (zo_p ht (by omega))) hdg kk
theorem gf_X1_pinned (X : zC p m c cc nL s args own D k a) (hH : zH D k a s g H locs) {i t : Nat} (hi : i < 6) (ht : t < 12) {idx : Nat} (hl : .fieldLink own idx "KeptPlans$Plan" "pinned" "Z" ∈ GW) (hdg : decode cc pc = .ok (.getfield idx, 3))
    (kk : W p l e R s m args below meth c H locs cells slots Q (F0 m (pc + 3) ls (.int (g i (13 + 11 * t + 8)) :: rest))) : W p l e R s m args below meth c H locs cells slots Q (F0 m pc ls (.ref (a i (8 + t)) :: rest)) :=
  z_get X hH (C := RX1) (T := TX1) (N := 11) (by omega) (by omega) (zE_plan hi) rfl inX1 1 (by omega) rfl hl rfl hdg kk
theorem pf_X1_pinned (X : zC p m c cc nL s args own D k a) (hH : zH D k a s g H locs) {i t : Nat} (hi : i < 6) (ht : t < 12) {idx : Nat} {x : Int32} (hx : x = 0 ∨ x = 1) (hl : .fieldLink own idx "KeptPlans$Plan" "pinned" "Z" ∈ GW) (hdg : decode cc pc = .ok (.putfield idx, 3))
    (kk : ∀ (H1 : Heap) (locs1 : List Loc), zH D k a s (zUp g i (upd (g i) (13 + 11 * t + 8) x)) H1 locs1 → W p l e R s m args below meth c H1 locs1 cells slots Q (F0 m (pc + 3) ls rest)) : W p l e R s m args below meth c H locs cells slots Q (F0 m pc ls (.int x :: .ref (a i (8 + t)) :: rest)) :=
  z_put X hH (C := RX1) (T := TX1) (N := 11) (by omega) (by omega) (zE_plan hi) rfl inX1 tyX1 tyX1_ok nmX1 1 (by omega) rfl hl rfl (ty := .boolean) (by decide +kernel) (by rcases hx with rfl | rfl <;> rfl) (by rcases hx with rfl | rfl <;> rfl) (by simp [zMi]) (zUp g i (upd (g i) (13 + 11 * t + 8) x)) (by rw [zE_plan hi]; simp [zUp, upd]) (z_ho hi (zo_p ht (by omega))) hdg kk
theorem gf_X1_way (X : zC p m c cc nL s args own D k a) (hH : zH D k a s g H locs) {i t : Nat} (hi : i < 6) (ht : t < 12) {idx : Nat} (hl : .fieldLink own idx "KeptPlans$Plan" "way" "I" ∈ GW) (hdg : decode cc pc = .ok (.getfield idx, 3))
    (kk : W p l e R s m args below meth c H locs cells slots Q (F0 m (pc + 3) ls (.int (g i (13 + 11 * t + 1)) :: rest))) : W p l e R s m args below meth c H locs cells slots Q (F0 m pc ls (.ref (a i (8 + t)) :: rest)) :=
  z_get X hH (C := RX1) (T := TX1) (N := 11) (by omega) (by omega) (zE_plan hi) rfl inX1 2 (by omega) rfl hl rfl hdg kk
theorem pf_X1_way (X : zC p m c cc nL s args own D k a) (hH : zH D k a s g H locs) {i t : Nat} (hi : i < 6) (ht : t < 12) {idx : Nat} {x : Int32}  (hl : .fieldLink own idx "KeptPlans$Plan" "way" "I" ∈ GW) (hdg : decode cc pc = .ok (.putfield idx, 3))
    (kk : ∀ (H1 : Heap) (locs1 : List Loc), zH D k a s (zUp g i (upd (g i) (13 + 11 * t + 1) x)) H1 locs1 → W p l e R s m args below meth c H1 locs1 cells slots Q (F0 m (pc + 3) ls rest)) : W p l e R s m args below meth c H locs cells slots Q (F0 m pc ls (.int x :: .ref (a i (8 + t)) :: rest)) :=
  z_put X hH (C := RX1) (T := TX1) (N := 11) (by omega) (by omega) (zE_plan hi) rfl inX1 tyX1 tyX1_ok nmX1 2 (by omega) rfl hl rfl (ty := .int) (by decide +kernel) rfl rfl (by simp [zMi]) (zUp g i (upd (g i) (13 + 11 * t + 1) x)) (by rw [zE_plan hi]; simp [zUp, upd]) (z_ho hi (zo_p ht (by omega))) hdg kk
theorem gf_X1_least (X : zC p m c cc nL s args own D k a) (hH : zH D k a s g H locs) {i t : Nat} (hi : i < 6) (ht : t < 12) {idx : Nat} (hl : .fieldLink own idx "KeptPlans$Plan" "least" "I" ∈ GW) (hdg : decode cc pc = .ok (.getfield idx, 3))
    (kk : W p l e R s m args below meth c H locs cells slots Q (F0 m (pc + 3) ls (.int (g i (13 + 11 * t + 2)) :: rest))) : W p l e R s m args below meth c H locs cells slots Q (F0 m pc ls (.ref (a i (8 + t)) :: rest)) :=
  z_get X hH (C := RX1) (T := TX1) (N := 11) (by omega) (by omega) (zE_plan hi) rfl inX1 3 (by omega) rfl hl rfl hdg kk
theorem pf_X1_least (X : zC p m c cc nL s args own D k a) (hH : zH D k a s g H locs) {i t : Nat} (hi : i < 6) (ht : t < 12) {idx : Nat} {x : Int32}  (hl : .fieldLink own idx "KeptPlans$Plan" "least" "I" ∈ GW) (hdg : decode cc pc = .ok (.putfield idx, 3))
    (kk : ∀ (H1 : Heap) (locs1 : List Loc), zH D k a s (zUp g i (upd (g i) (13 + 11 * t + 2) x)) H1 locs1 → W p l e R s m args below meth c H1 locs1 cells slots Q (F0 m (pc + 3) ls rest)) : W p l e R s m args below meth c H locs cells slots Q (F0 m pc ls (.int x :: .ref (a i (8 + t)) :: rest)) :=
  z_put X hH (C := RX1) (T := TX1) (N := 11) (by omega) (by omega) (zE_plan hi) rfl inX1 tyX1 tyX1_ok nmX1 3 (by omega) rfl hl rfl (ty := .int) (by decide +kernel) rfl rfl (by simp [zMi]) (zUp g i (upd (g i) (13 + 11 * t + 2) x)) (by rw [zE_plan hi]; simp [zUp, upd]) (z_ho hi (zo_p ht (by omega))) hdg kk
theorem gf_X1_most (X : zC p m c cc nL s args own D k a) (hH : zH D k a s g H locs) {i t : Nat} (hi : i < 6) (ht : t < 12) {idx : Nat} (hl : .fieldLink own idx "KeptPlans$Plan" "most" "I" ∈ GW) (hdg : decode cc pc = .ok (.getfield idx, 3))
    (kk : W p l e R s m args below meth c H locs cells slots Q (F0 m (pc + 3) ls (.int (g i (13 + 11 * t + 3)) :: rest))) : W p l e R s m args below meth c H locs cells slots Q (F0 m pc ls (.ref (a i (8 + t)) :: rest)) :=
  z_get X hH (C := RX1) (T := TX1) (N := 11) (by omega) (by omega) (zE_plan hi) rfl inX1 4 (by omega) rfl hl rfl hdg kk
theorem pf_X1_most (X : zC p m c cc nL s args own D k a) (hH : zH D k a s g H locs) {i t : Nat} (hi : i < 6) (ht : t < 12) {idx : Nat} {x : Int32}  (hl : .fieldLink own idx "KeptPlans$Plan" "most" "I" ∈ GW) (hdg : decode cc pc = .ok (.putfield idx, 3))
    (kk : ∀ (H1 : Heap) (locs1 : List Loc), zH D k a s (zUp g i (upd (g i) (13 + 11 * t + 3) x)) H1 locs1 → W p l e R s m args below meth c H1 locs1 cells slots Q (F0 m (pc + 3) ls rest)) : W p l e R s m args below meth c H locs cells slots Q (F0 m pc ls (.int x :: .ref (a i (8 + t)) :: rest)) :=
  z_put X hH (C := RX1) (T := TX1) (N := 11) (by omega) (by omega) (zE_plan hi) rfl inX1 tyX1 tyX1_ok nmX1 4 (by omega) rfl hl rfl (ty := .int) (by decide +kernel) rfl rfl (by simp [zMi]) (zUp g i (upd (g i) (13 + 11 * t + 3) x)) (by rw [zE_plan hi]; simp [zUp, upd]) (z_ho hi (zo_p ht (by omega))) hdg kk
theorem gf_X1_number (X : zC p m c cc nL s args own D k a) (hH : zH D k a s g H locs) {i t : Nat} (hi : i < 6) (ht : t < 12) {idx : Nat} (hl : .fieldLink own idx "KeptPlans$Plan" "number" "I" ∈ GW) (hdg : decode cc pc = .ok (.getfield idx, 3))
    (kk : W p l e R s m args below meth c H locs cells slots Q (F0 m (pc + 3) ls (.int (g i (13 + 11 * t + 4)) :: rest))) : W p l e R s m args below meth c H locs cells slots Q (F0 m pc ls (.ref (a i (8 + t)) :: rest)) :=
  z_get X hH (C := RX1) (T := TX1) (N := 11) (by omega) (by omega) (zE_plan hi) rfl inX1 5 (by omega) rfl hl rfl hdg kk
theorem pf_X1_number (X : zC p m c cc nL s args own D k a) (hH : zH D k a s g H locs) {i t : Nat} (hi : i < 6) (ht : t < 12) {idx : Nat} {x : Int32}  (hl : .fieldLink own idx "KeptPlans$Plan" "number" "I" ∈ GW) (hdg : decode cc pc = .ok (.putfield idx, 3))
    (kk : ∀ (H1 : Heap) (locs1 : List Loc), zH D k a s (zUp g i (upd (g i) (13 + 11 * t + 4) x)) H1 locs1 → W p l e R s m args below meth c H1 locs1 cells slots Q (F0 m (pc + 3) ls rest)) : W p l e R s m args below meth c H locs cells slots Q (F0 m pc ls (.int x :: .ref (a i (8 + t)) :: rest)) :=
  z_put X hH (C := RX1) (T := TX1) (N := 11) (by omega) (by omega) (zE_plan hi) rfl inX1 tyX1 tyX1_ok nmX1 5 (by omega) rfl hl rfl (ty := .int) (by decide +kernel) rfl rfl (by simp [zMi]) (zUp g i (upd (g i) (13 + 11 * t + 4) x)) (by rw [zE_plan hi]; simp [zUp, upd]) (z_ho hi (zo_p ht (by omega))) hdg kk
theorem gf_X1_guess (X : zC p m c cc nL s args own D k a) (hH : zH D k a s g H locs) {i t : Nat} (hi : i < 6) (ht : t < 12) {idx : Nat} (hl : .fieldLink own idx "KeptPlans$Plan" "guess" "I" ∈ GW) (hdg : decode cc pc = .ok (.getfield idx, 3))
    (kk : W p l e R s m args below meth c H locs cells slots Q (F0 m (pc + 3) ls (.int (g i (13 + 11 * t + 5)) :: rest))) : W p l e R s m args below meth c H locs cells slots Q (F0 m pc ls (.ref (a i (8 + t)) :: rest)) :=
  z_get X hH (C := RX1) (T := TX1) (N := 11) (by omega) (by omega) (zE_plan hi) rfl inX1 6 (by omega) rfl hl rfl hdg kk
theorem pf_X1_guess (X : zC p m c cc nL s args own D k a) (hH : zH D k a s g H locs) {i t : Nat} (hi : i < 6) (ht : t < 12) {idx : Nat} {x : Int32}  (hl : .fieldLink own idx "KeptPlans$Plan" "guess" "I" ∈ GW) (hdg : decode cc pc = .ok (.putfield idx, 3))
    (kk : ∀ (H1 : Heap) (locs1 : List Loc), zH D k a s (zUp g i (upd (g i) (13 + 11 * t + 5) x)) H1 locs1 → W p l e R s m args below meth c H1 locs1 cells slots Q (F0 m (pc + 3) ls rest)) : W p l e R s m args below meth c H locs cells slots Q (F0 m pc ls (.int x :: .ref (a i (8 + t)) :: rest)) :=
  z_put X hH (C := RX1) (T := TX1) (N := 11) (by omega) (by omega) (zE_plan hi) rfl inX1 tyX1 tyX1_ok nmX1 6 (by omega) rfl hl rfl (ty := .int) (by decide +kernel) rfl rfl (by simp [zMi]) (zUp g i (upd (g i) (13 + 11 * t + 5) x)) (by rw [zE_plan hi]; simp [zUp, upd]) (z_ho hi (zo_p ht (by omega))) hdg kk
theorem gf_X1_rows (X : zC p m c cc nL s args own D k a) (hH : zH D k a s g H locs) {i t : Nat} (hi : i < 6) (ht : t < 12) {idx : Nat} (hl : .fieldLink own idx "KeptPlans$Plan" "rows" "I" ∈ GW) (hdg : decode cc pc = .ok (.getfield idx, 3))
    (kk : W p l e R s m args below meth c H locs cells slots Q (F0 m (pc + 3) ls (.int (g i (13 + 11 * t + 10)) :: rest))) : W p l e R s m args below meth c H locs cells slots Q (F0 m pc ls (.ref (a i (8 + t)) :: rest)) :=
  z_get X hH (C := RX1) (T := TX1) (N := 11) (by omega) (by omega) (zE_plan hi) rfl inX1 7 (by omega) rfl hl rfl hdg kk
theorem pf_X1_rows (X : zC p m c cc nL s args own D k a) (hH : zH D k a s g H locs) {i t : Nat} (hi : i < 6) (ht : t < 12) {idx : Nat} {x : Int32}  (hl : .fieldLink own idx "KeptPlans$Plan" "rows" "I" ∈ GW) (hdg : decode cc pc = .ok (.putfield idx, 3))
    (kk : ∀ (H1 : Heap) (locs1 : List Loc), zH D k a s (zUp g i (upd (g i) (13 + 11 * t + 10) x)) H1 locs1 → W p l e R s m args below meth c H1 locs1 cells slots Q (F0 m (pc + 3) ls rest)) : W p l e R s m args below meth c H locs cells slots Q (F0 m pc ls (.int x :: .ref (a i (8 + t)) :: rest)) :=
  z_put X hH (C := RX1) (T := TX1) (N := 11) (by omega) (by omega) (zE_plan hi) rfl inX1 tyX1 tyX1_ok nmX1 7 (by omega) rfl hl rfl (ty := .int) (by decide +kernel) rfl rfl (by simp [zMi]) (zUp g i (upd (g i) (13 + 11 * t + 10) x)) (by rw [zE_plan hi]; simp [zUp, upd]) (z_ho hi (zo_p ht (by omega))) hdg kk
theorem gf_X1_uses (X : zC p m c cc nL s args own D k a) (hH : zH D k a s g H locs) {i t : Nat} (hi : i < 6) (ht : t < 12) {idx : Nat} (hl : .fieldLink own idx "KeptPlans$Plan" "uses" "I" ∈ GW) (hdg : decode cc pc = .ok (.getfield idx, 3))
    (kk : W p l e R s m args below meth c H locs cells slots Q (F0 m (pc + 3) ls (.int (g i (13 + 11 * t + 9)) :: rest))) : W p l e R s m args below meth c H locs cells slots Q (F0 m pc ls (.ref (a i (8 + t)) :: rest)) :=
  z_get X hH (C := RX1) (T := TX1) (N := 11) (by omega) (by omega) (zE_plan hi) rfl inX1 8 (by omega) rfl hl rfl hdg kk
theorem pf_X1_uses (X : zC p m c cc nL s args own D k a) (hH : zH D k a s g H locs) {i t : Nat} (hi : i < 6) (ht : t < 12) {idx : Nat} {x : Int32}  (hl : .fieldLink own idx "KeptPlans$Plan" "uses" "I" ∈ GW) (hdg : decode cc pc = .ok (.putfield idx, 3))
    (kk : ∀ (H1 : Heap) (locs1 : List Loc), zH D k a s (zUp g i (upd (g i) (13 + 11 * t + 9) x)) H1 locs1 → W p l e R s m args below meth c H1 locs1 cells slots Q (F0 m (pc + 3) ls rest)) : W p l e R s m args below meth c H locs cells slots Q (F0 m pc ls (.int x :: .ref (a i (8 + t)) :: rest)) :=
  z_put X hH (C := RX1) (T := TX1) (N := 11) (by omega) (by omega) (zE_plan hi) rfl inX1 tyX1 tyX1_ok nmX1 8 (by omega) rfl hl rfl (ty := .int) (by decide +kernel) rfl rfl (by simp [zMi]) (zUp g i (upd (g i) (13 + 11 * t + 9) x)) (by rw [zE_plan hi]; simp [zUp, upd]) (z_ho hi (zo_p ht (by omega))) hdg kk
theorem gf_X1_madeAt (X : zC p m c cc nL s args own D k a) (hH : zH D k a s g H locs) {i t : Nat} (hi : i < 6) (ht : t < 12) {idx : Nat} (hl : .fieldLink own idx "KeptPlans$Plan" "madeAt" "I" ∈ GW) (hdg : decode cc pc = .ok (.getfield idx, 3))
    (kk : W p l e R s m args below meth c H locs cells slots Q (F0 m (pc + 3) ls (.int (g i (13 + 11 * t + 6)) :: rest))) : W p l e R s m args below meth c H locs cells slots Q (F0 m pc ls (.ref (a i (8 + t)) :: rest)) :=
  z_get X hH (C := RX1) (T := TX1) (N := 11) (by omega) (by omega) (zE_plan hi) rfl inX1 9 (by omega) rfl hl rfl hdg kk
theorem pf_X1_madeAt (X : zC p m c cc nL s args own D k a) (hH : zH D k a s g H locs) {i t : Nat} (hi : i < 6) (ht : t < 12) {idx : Nat} {x : Int32}  (hl : .fieldLink own idx "KeptPlans$Plan" "madeAt" "I" ∈ GW) (hdg : decode cc pc = .ok (.putfield idx, 3))
    (kk : ∀ (H1 : Heap) (locs1 : List Loc), zH D k a s (zUp g i (upd (g i) (13 + 11 * t + 6) x)) H1 locs1 → W p l e R s m args below meth c H1 locs1 cells slots Q (F0 m (pc + 3) ls rest)) : W p l e R s m args below meth c H locs cells slots Q (F0 m pc ls (.int x :: .ref (a i (8 + t)) :: rest)) :=
  z_put X hH (C := RX1) (T := TX1) (N := 11) (by omega) (by omega) (zE_plan hi) rfl inX1 tyX1 tyX1_ok nmX1 9 (by omega) rfl hl rfl (ty := .int) (by decide +kernel) rfl rfl (by simp [zMi]) (zUp g i (upd (g i) (13 + 11 * t + 6) x)) (by rw [zE_plan hi]; simp [zUp, upd]) (z_ho hi (zo_p ht (by omega))) hdg kk
theorem gf_X1_usedAt (X : zC p m c cc nL s args own D k a) (hH : zH D k a s g H locs) {i t : Nat} (hi : i < 6) (ht : t < 12) {idx : Nat} (hl : .fieldLink own idx "KeptPlans$Plan" "usedAt" "I" ∈ GW) (hdg : decode cc pc = .ok (.getfield idx, 3))
    (kk : W p l e R s m args below meth c H locs cells slots Q (F0 m (pc + 3) ls (.int (g i (13 + 11 * t + 7)) :: rest))) : W p l e R s m args below meth c H locs cells slots Q (F0 m pc ls (.ref (a i (8 + t)) :: rest)) :=
  z_get X hH (C := RX1) (T := TX1) (N := 11) (by omega) (by omega) (zE_plan hi) rfl inX1 10 (by omega) rfl hl rfl hdg kk
theorem pf_X1_usedAt (X : zC p m c cc nL s args own D k a) (hH : zH D k a s g H locs) {i t : Nat} (hi : i < 6) (ht : t < 12) {idx : Nat} {x : Int32}  (hl : .fieldLink own idx "KeptPlans$Plan" "usedAt" "I" ∈ GW) (hdg : decode cc pc = .ok (.putfield idx, 3))
    (kk : ∀ (H1 : Heap) (locs1 : List Loc), zH D k a s (zUp g i (upd (g i) (13 + 11 * t + 7) x)) H1 locs1 → W p l e R s m args below meth c H1 locs1 cells slots Q (F0 m (pc + 3) ls rest)) : W p l e R s m args below meth c H locs cells slots Q (F0 m pc ls (.int x :: .ref (a i (8 + t)) :: rest)) :=
  z_put X hH (C := RX1) (T := TX1) (N := 11) (by omega) (by omega) (zE_plan hi) rfl inX1 tyX1 tyX1_ok nmX1 10 (by omega) rfl hl rfl (ty := .int) (by decide +kernel) rfl rfl (by simp [zMi]) (zUp g i (upd (g i) (13 + 11 * t + 7) x)) (by rw [zE_plan hi]; simp [zUp, upd]) (z_ho hi (zo_p ht (by omega))) hdg kk
theorem gf_X4_rows (X : zC p m c cc nL s args own D k a) (hH : zH D k a s g H locs) {i t : Nat} (hi : i < 6) (ht : t < 4) {idx : Nat} (hl : .fieldLink own idx "KeptPlans$Table" "rows" "I" ∈ GW) (hdg : decode cc pc = .ok (.getfield idx, 3))
    (kk : W p l e R s m args below meth c H locs cells slots Q (F0 m (pc + 3) ls (.int (g i t) :: rest))) : W p l e R s m args below meth c H locs cells slots Q (F0 m pc ls (.ref (a i (4 + t)) :: rest)) :=
  z_get X hH (C := RX4) (T := TX4) (N := 4) (by omega) (by omega) (zE_table hi ht) rfl inX4 0 (by omega) rfl hl rfl hdg kk
theorem pf_X4_rows (X : zC p m c cc nL s args own D k a) (hH : zH D k a s g H locs) {i t : Nat} (hi : i < 6) (ht : t < 4) {idx : Nat} {x : Int32}  (hl : .fieldLink own idx "KeptPlans$Table" "rows" "I" ∈ GW) (hdg : decode cc pc = .ok (.putfield idx, 3))
    (kk : ∀ (H1 : Heap) (locs1 : List Loc), zH D k a s (zUp g i (upd (g i) t x)) H1 locs1 → W p l e R s m args below meth c H1 locs1 cells slots Q (F0 m (pc + 3) ls rest)) : W p l e R s m args below meth c H locs cells slots Q (F0 m pc ls (.int x :: .ref (a i (4 + t)) :: rest)) :=
  z_put X hH (C := RX4) (T := TX4) (N := 4) (by omega) (by omega) (zE_table hi ht) rfl inX4 tyX4 tyX4_ok nmX4 0 (by omega) rfl hl rfl (ty := .int) (by decide +kernel) rfl rfl (by simp [zMi]) (zUp g i (upd (g i) t x)) (by rw [zE_table hi ht]; simp [zUp, upd] <;> omega) (z_ho hi (zo_a ht)) hdg kk
theorem gf_X4_keys (X : zC p m c cc nL s args own D k a) (hH : zH D k a s g H locs) {i t : Nat} (hi : i < 6) (ht : t < 4) {idx : Nat} (hl : .fieldLink own idx "KeptPlans$Table" "keys" "I" ∈ GW) (hdg : decode cc pc = .ok (.getfield idx, 3))
    (kk : W p l e R s m args below meth c H locs cells slots Q (F0 m (pc + 3) ls (.int (g i (4 + t)) :: rest))) : W p l e R s m args below meth c H locs cells slots Q (F0 m pc ls (.ref (a i (4 + t)) :: rest)) :=
  z_get X hH (C := RX4) (T := TX4) (N := 4) (by omega) (by omega) (zE_table hi ht) rfl inX4 1 (by omega) rfl hl rfl hdg kk
theorem pf_X4_keys (X : zC p m c cc nL s args own D k a) (hH : zH D k a s g H locs) {i t : Nat} (hi : i < 6) (ht : t < 4) {idx : Nat} {x : Int32}  (hl : .fieldLink own idx "KeptPlans$Table" "keys" "I" ∈ GW) (hdg : decode cc pc = .ok (.putfield idx, 3))
    (kk : ∀ (H1 : Heap) (locs1 : List Loc), zH D k a s (zUp g i (upd (g i) (4 + t) x)) H1 locs1 → W p l e R s m args below meth c H1 locs1 cells slots Q (F0 m (pc + 3) ls rest)) : W p l e R s m args below meth c H locs cells slots Q (F0 m pc ls (.int x :: .ref (a i (4 + t)) :: rest)) :=
  z_put X hH (C := RX4) (T := TX4) (N := 4) (by omega) (by omega) (zE_table hi ht) rfl inX4 tyX4 tyX4_ok nmX4 1 (by omega) rfl hl rfl (ty := .int) (by decide +kernel) rfl rfl (by simp [zMi]) (zUp g i (upd (g i) (4 + t) x)) (by rw [zE_table hi ht]; simp [zUp, upd] <;> omega) (z_ho hi (zo_b ht)) hdg kk
theorem gf_X4_questions (X : zC p m c cc nL s args own D k a) (hH : zH D k a s g H locs) {i t : Nat} (hi : i < 6) (ht : t < 4) {idx : Nat} (hl : .fieldLink own idx "KeptPlans$Table" "questions" "I" ∈ GW) (hdg : decode cc pc = .ok (.getfield idx, 3))
    (kk : W p l e R s m args below meth c H locs cells slots Q (F0 m (pc + 3) ls (.int (g i (152 + t)) :: rest))) : W p l e R s m args below meth c H locs cells slots Q (F0 m pc ls (.ref (a i (4 + t)) :: rest)) :=
  z_get X hH (C := RX4) (T := TX4) (N := 4) (by omega) (by omega) (zE_table hi ht) rfl inX4 2 (by omega) rfl hl rfl hdg kk
theorem pf_X4_questions (X : zC p m c cc nL s args own D k a) (hH : zH D k a s g H locs) {i t : Nat} (hi : i < 6) (ht : t < 4) {idx : Nat} {x : Int32}  (hl : .fieldLink own idx "KeptPlans$Table" "questions" "I" ∈ GW) (hdg : decode cc pc = .ok (.putfield idx, 3))
    (kk : ∀ (H1 : Heap) (locs1 : List Loc), zH D k a s (zUp g i (upd (g i) (152 + t) x)) H1 locs1 → W p l e R s m args below meth c H1 locs1 cells slots Q (F0 m (pc + 3) ls rest)) : W p l e R s m args below meth c H locs cells slots Q (F0 m pc ls (.int x :: .ref (a i (4 + t)) :: rest)) :=
  z_put X hH (C := RX4) (T := TX4) (N := 4) (by omega) (by omega) (zE_table hi ht) rfl inX4 tyX4 tyX4_ok nmX4 2 (by omega) rfl hl rfl (ty := .int) (by decide +kernel) rfl rfl (by simp [zMi]) (zUp g i (upd (g i) (152 + t) x)) (by rw [zE_table hi ht]; simp [zUp, upd] <;> omega) (z_ho hi (zo_c ht)) hdg kk
theorem gf_X4_spent (X : zC p m c cc nL s args own D k a) (hH : zH D k a s g H locs) {i t : Nat} (hi : i < 6) (ht : t < 4) {idx : Nat} (hl : .fieldLink own idx "KeptPlans$Table" "spent" "I" ∈ GW) (hdg : decode cc pc = .ok (.getfield idx, 3))
    (kk : W p l e R s m args below meth c H locs cells slots Q (F0 m (pc + 3) ls (.int (g i (156 + t)) :: rest))) : W p l e R s m args below meth c H locs cells slots Q (F0 m pc ls (.ref (a i (4 + t)) :: rest)) :=
  z_get X hH (C := RX4) (T := TX4) (N := 4) (by omega) (by omega) (zE_table hi ht) rfl inX4 3 (by omega) rfl hl rfl hdg kk
theorem pf_X4_spent (X : zC p m c cc nL s args own D k a) (hH : zH D k a s g H locs) {i t : Nat} (hi : i < 6) (ht : t < 4) {idx : Nat} {x : Int32}  (hl : .fieldLink own idx "KeptPlans$Table" "spent" "I" ∈ GW) (hdg : decode cc pc = .ok (.putfield idx, 3))
    (kk : ∀ (H1 : Heap) (locs1 : List Loc), zH D k a s (zUp g i (upd (g i) (156 + t) x)) H1 locs1 → W p l e R s m args below meth c H1 locs1 cells slots Q (F0 m (pc + 3) ls rest)) : W p l e R s m args below meth c H locs cells slots Q (F0 m pc ls (.int x :: .ref (a i (4 + t)) :: rest)) :=
  z_put X hH (C := RX4) (T := TX4) (N := 4) (by omega) (by omega) (zE_table hi ht) rfl inX4 tyX4 tyX4_ok nmX4 3 (by omega) rfl hl rfl (ty := .int) (by decide +kernel) rfl rfl (by simp [zMi]) (zUp g i (upd (g i) (156 + t) x)) (by rw [zE_table hi ht]; simp [zUp, upd] <;> omega) (z_ho hi (zo_d ht)) hdg kk
theorem gf_X3_tables (X : zC p m c cc nL s args own D k a) (hH : zH D k a s g H locs) {i : Nat} (hi : i < 6) {idx : Nat} (hl : .fieldLink own idx "KeptPlans$State" "tables" "[LKeptPlans$Table;" ∈ GW) (hdg : decode cc pc = .ok (.getfield idx, 3))
    (kk : W p l e R s m args below meth c H locs cells slots Q (F0 m (pc + 3) ls (.ref (a i 1) :: rest))) : W p l e R s m args below meth c H locs cells slots Q (F0 m pc ls (.ref (a i 0) :: rest)) :=
  z_get X hH (C := RX3) (T := TX3) (N := 10) (by omega) (by omega) (zE_state hi) rfl inX3 0 (by omega) rfl hl rfl hdg kk
theorem gf_X3_plans (X : zC p m c cc nL s args own D k a) (hH : zH D k a s g H locs) {i : Nat} (hi : i < 6) {idx : Nat} (hl : .fieldLink own idx "KeptPlans$State" "plans" "[LKeptPlans$Plan;" ∈ GW) (hdg : decode cc pc = .ok (.getfield idx, 3))
    (kk : W p l e R s m args below meth c H locs cells slots Q (F0 m (pc + 3) ls (.ref (a i 2) :: rest))) : W p l e R s m args below meth c H locs cells slots Q (F0 m pc ls (.ref (a i 0) :: rest)) :=
  z_get X hH (C := RX3) (T := TX3) (N := 10) (by omega) (by omega) (zE_state hi) rfl inX3 1 (by omega) rfl hl rfl hdg kk
theorem gf_X3_settings (X : zC p m c cc nL s args own D k a) (hH : zH D k a s g H locs) {i : Nat} (hi : i < 6) {idx : Nat} (hl : .fieldLink own idx "KeptPlans$State" "settings" "[I" ∈ GW) (hdg : decode cc pc = .ok (.getfield idx, 3))
    (kk : W p l e R s m args below meth c H locs cells slots Q (F0 m (pc + 3) ls (.ref (a i 3) :: rest))) : W p l e R s m args below meth c H locs cells slots Q (F0 m pc ls (.ref (a i 0) :: rest)) :=
  z_get X hH (C := RX3) (T := TX3) (N := 10) (by omega) (by omega) (zE_state hi) rfl inX3 2 (by omega) rfl hl rfl hdg kk
theorem gf_X3_questions (X : zC p m c cc nL s args own D k a) (hH : zH D k a s g H locs) {i : Nat} (hi : i < 6) {idx : Nat} (hl : .fieldLink own idx "KeptPlans$State" "questions" "I" ∈ GW) (hdg : decode cc pc = .ok (.getfield idx, 3))
    (kk : W p l e R s m args below meth c H locs cells slots Q (F0 m (pc + 3) ls (.int (g i 145) :: rest))) : W p l e R s m args below meth c H locs cells slots Q (F0 m pc ls (.ref (a i 0) :: rest)) :=
  z_get X hH (C := RX3) (T := TX3) (N := 10) (by omega) (by omega) (zE_state hi) rfl inX3 3 (by omega) rfl hl rfl hdg kk
theorem pf_X3_questions (X : zC p m c cc nL s args own D k a) (hH : zH D k a s g H locs) {i : Nat} (hi : i < 6) {idx : Nat} {x : Int32}  (hl : .fieldLink own idx "KeptPlans$State" "questions" "I" ∈ GW) (hdg : decode cc pc = .ok (.putfield idx, 3))
    (kk : ∀ (H1 : Heap) (locs1 : List Loc), zH D k a s (zUp g i (upd (g i) 145 x)) H1 locs1 → W p l e R s m args below meth c H1 locs1 cells slots Q (F0 m (pc + 3) ls rest)) : W p l e R s m args below meth c H locs cells slots Q (F0 m pc ls (.int x :: .ref (a i 0) :: rest)) :=
  z_put X hH (C := RX3) (T := TX3) (N := 10) (by omega) (by omega) (zE_state hi) rfl inX3 tyX3 tyX3_ok nmX3 3 (by omega) rfl hl rfl (ty := .int) (by decide +kernel) rfl rfl (by simp [zMi]) (zUp g i (upd (g i) 145 x)) (by rw [zE_state hi]; simp [zUp, upd]) (z_ho hi (zo_0 (by omega) (by omega))) hdg kk
theorem gf_X3_hits (X : zC p m c cc nL s args own D k a) (hH : zH D k a s g H locs) {i : Nat} (hi : i < 6) {idx : Nat} (hl : .fieldLink own idx "KeptPlans$State" "hits" "I" ∈ GW) (hdg : decode cc pc = .ok (.getfield idx, 3))
    (kk : W p l e R s m args below meth c H locs cells slots Q (F0 m (pc + 3) ls (.int (g i 146) :: rest))) : W p l e R s m args below meth c H locs cells slots Q (F0 m pc ls (.ref (a i 0) :: rest)) :=
  z_get X hH (C := RX3) (T := TX3) (N := 10) (by omega) (by omega) (zE_state hi) rfl inX3 4 (by omega) rfl hl rfl hdg kk
theorem pf_X3_hits (X : zC p m c cc nL s args own D k a) (hH : zH D k a s g H locs) {i : Nat} (hi : i < 6) {idx : Nat} {x : Int32}  (hl : .fieldLink own idx "KeptPlans$State" "hits" "I" ∈ GW) (hdg : decode cc pc = .ok (.putfield idx, 3))
    (kk : ∀ (H1 : Heap) (locs1 : List Loc), zH D k a s (zUp g i (upd (g i) 146 x)) H1 locs1 → W p l e R s m args below meth c H1 locs1 cells slots Q (F0 m (pc + 3) ls rest)) : W p l e R s m args below meth c H locs cells slots Q (F0 m pc ls (.int x :: .ref (a i 0) :: rest)) :=
  z_put X hH (C := RX3) (T := TX3) (N := 10) (by omega) (by omega) (zE_state hi) rfl inX3 tyX3 tyX3_ok nmX3 4 (by omega) rfl hl rfl (ty := .int) (by decide +kernel) rfl rfl (by simp [zMi]) (zUp g i (upd (g i) 146 x)) (by rw [zE_state hi]; simp [zUp, upd]) (z_ho hi (zo_0 (by omega) (by omega))) hdg kk
theorem gf_X3_misses (X : zC p m c cc nL s args own D k a) (hH : zH D k a s g H locs) {i : Nat} (hi : i < 6) {idx : Nat} (hl : .fieldLink own idx "KeptPlans$State" "misses" "I" ∈ GW) (hdg : decode cc pc = .ok (.getfield idx, 3))
    (kk : W p l e R s m args below meth c H locs cells slots Q (F0 m (pc + 3) ls (.int (g i 147) :: rest))) : W p l e R s m args below meth c H locs cells slots Q (F0 m pc ls (.ref (a i 0) :: rest)) :=
  z_get X hH (C := RX3) (T := TX3) (N := 10) (by omega) (by omega) (zE_state hi) rfl inX3 5 (by omega) rfl hl rfl hdg kk
theorem pf_X3_misses (X : zC p m c cc nL s args own D k a) (hH : zH D k a s g H locs) {i : Nat} (hi : i < 6) {idx : Nat} {x : Int32}  (hl : .fieldLink own idx "KeptPlans$State" "misses" "I" ∈ GW) (hdg : decode cc pc = .ok (.putfield idx, 3))
    (kk : ∀ (H1 : Heap) (locs1 : List Loc), zH D k a s (zUp g i (upd (g i) 147 x)) H1 locs1 → W p l e R s m args below meth c H1 locs1 cells slots Q (F0 m (pc + 3) ls rest)) : W p l e R s m args below meth c H locs cells slots Q (F0 m pc ls (.int x :: .ref (a i 0) :: rest)) :=
  z_put X hH (C := RX3) (T := TX3) (N := 10) (by omega) (by omega) (zE_state hi) rfl inX3 tyX3 tyX3_ok nmX3 5 (by omega) rfl hl rfl (ty := .int) (by decide +kernel) rfl rfl (by simp [zMi]) (zUp g i (upd (g i) 147 x)) (by rw [zE_state hi]; simp [zUp, upd]) (z_ho hi (zo_0 (by omega) (by omega))) hdg kk
theorem gf_X3_spent (X : zC p m c cc nL s args own D k a) (hH : zH D k a s g H locs) {i : Nat} (hi : i < 6) {idx : Nat} (hl : .fieldLink own idx "KeptPlans$State" "spent" "I" ∈ GW) (hdg : decode cc pc = .ok (.getfield idx, 3))
    (kk : W p l e R s m args below meth c H locs cells slots Q (F0 m (pc + 3) ls (.int (g i 148) :: rest))) : W p l e R s m args below meth c H locs cells slots Q (F0 m pc ls (.ref (a i 0) :: rest)) :=
  z_get X hH (C := RX3) (T := TX3) (N := 10) (by omega) (by omega) (zE_state hi) rfl inX3 6 (by omega) rfl hl rfl hdg kk
theorem pf_X3_spent (X : zC p m c cc nL s args own D k a) (hH : zH D k a s g H locs) {i : Nat} (hi : i < 6) {idx : Nat} {x : Int32}  (hl : .fieldLink own idx "KeptPlans$State" "spent" "I" ∈ GW) (hdg : decode cc pc = .ok (.putfield idx, 3))
    (kk : ∀ (H1 : Heap) (locs1 : List Loc), zH D k a s (zUp g i (upd (g i) 148 x)) H1 locs1 → W p l e R s m args below meth c H1 locs1 cells slots Q (F0 m (pc + 3) ls rest)) : W p l e R s m args below meth c H locs cells slots Q (F0 m pc ls (.int x :: .ref (a i 0) :: rest)) :=
  z_put X hH (C := RX3) (T := TX3) (N := 10) (by omega) (by omega) (zE_state hi) rfl inX3 tyX3 tyX3_ok nmX3 6 (by omega) rfl hl rfl (ty := .int) (by decide +kernel) rfl rfl (by simp [zMi]) (zUp g i (upd (g i) 148 x)) (by rw [zE_state hi]; simp [zUp, upd]) (z_ho hi (zo_0 (by omega) (by omega))) hdg kk
theorem gf_X3_spentLooking (X : zC p m c cc nL s args own D k a) (hH : zH D k a s g H locs) {i : Nat} (hi : i < 6) {idx : Nat} (hl : .fieldLink own idx "KeptPlans$State" "spentLooking" "I" ∈ GW) (hdg : decode cc pc = .ok (.getfield idx, 3))
    (kk : W p l e R s m args below meth c H locs cells slots Q (F0 m (pc + 3) ls (.int (g i 149) :: rest))) : W p l e R s m args below meth c H locs cells slots Q (F0 m pc ls (.ref (a i 0) :: rest)) :=
  z_get X hH (C := RX3) (T := TX3) (N := 10) (by omega) (by omega) (zE_state hi) rfl inX3 7 (by omega) rfl hl rfl hdg kk
theorem pf_X3_spentLooking (X : zC p m c cc nL s args own D k a) (hH : zH D k a s g H locs) {i : Nat} (hi : i < 6) {idx : Nat} {x : Int32}  (hl : .fieldLink own idx "KeptPlans$State" "spentLooking" "I" ∈ GW) (hdg : decode cc pc = .ok (.putfield idx, 3))
    (kk : ∀ (H1 : Heap) (locs1 : List Loc), zH D k a s (zUp g i (upd (g i) 149 x)) H1 locs1 → W p l e R s m args below meth c H1 locs1 cells slots Q (F0 m (pc + 3) ls rest)) : W p l e R s m args below meth c H locs cells slots Q (F0 m pc ls (.int x :: .ref (a i 0) :: rest)) :=
  z_put X hH (C := RX3) (T := TX3) (N := 10) (by omega) (by omega) (zE_state hi) rfl inX3 tyX3 tyX3_ok nmX3 7 (by omega) rfl hl rfl (ty := .int) (by decide +kernel) rfl rfl (by simp [zMi]) (zUp g i (upd (g i) 149 x)) (by rw [zE_state hi]; simp [zUp, upd]) (z_ho hi (zo_0 (by omega) (by omega))) hdg kk
theorem gf_X3_turnedBad (X : zC p m c cc nL s args own D k a) (hH : zH D k a s g H locs) {i : Nat} (hi : i < 6) {idx : Nat} (hl : .fieldLink own idx "KeptPlans$State" "turnedBad" "I" ∈ GW) (hdg : decode cc pc = .ok (.getfield idx, 3))
    (kk : W p l e R s m args below meth c H locs cells slots Q (F0 m (pc + 3) ls (.int (g i 150) :: rest))) : W p l e R s m args below meth c H locs cells slots Q (F0 m pc ls (.ref (a i 0) :: rest)) :=
  z_get X hH (C := RX3) (T := TX3) (N := 10) (by omega) (by omega) (zE_state hi) rfl inX3 8 (by omega) rfl hl rfl hdg kk
theorem pf_X3_turnedBad (X : zC p m c cc nL s args own D k a) (hH : zH D k a s g H locs) {i : Nat} (hi : i < 6) {idx : Nat} {x : Int32}  (hl : .fieldLink own idx "KeptPlans$State" "turnedBad" "I" ∈ GW) (hdg : decode cc pc = .ok (.putfield idx, 3))
    (kk : ∀ (H1 : Heap) (locs1 : List Loc), zH D k a s (zUp g i (upd (g i) 150 x)) H1 locs1 → W p l e R s m args below meth c H1 locs1 cells slots Q (F0 m (pc + 3) ls rest)) : W p l e R s m args below meth c H locs cells slots Q (F0 m pc ls (.int x :: .ref (a i 0) :: rest)) :=
  z_put X hH (C := RX3) (T := TX3) (N := 10) (by omega) (by omega) (zE_state hi) rfl inX3 tyX3 tyX3_ok nmX3 8 (by omega) rfl hl rfl (ty := .int) (by decide +kernel) rfl rfl (by simp [zMi]) (zUp g i (upd (g i) 150 x)) (by rw [zE_state hi]; simp [zUp, upd]) (z_ho hi (zo_0 (by omega) (by omega))) hdg kk
theorem gf_X3_crowdedOut (X : zC p m c cc nL s args own D k a) (hH : zH D k a s g H locs) {i : Nat} (hi : i < 6) {idx : Nat} (hl : .fieldLink own idx "KeptPlans$State" "crowdedOut" "I" ∈ GW) (hdg : decode cc pc = .ok (.getfield idx, 3))
    (kk : W p l e R s m args below meth c H locs cells slots Q (F0 m (pc + 3) ls (.int (g i 151) :: rest))) : W p l e R s m args below meth c H locs cells slots Q (F0 m pc ls (.ref (a i 0) :: rest)) :=
  z_get X hH (C := RX3) (T := TX3) (N := 10) (by omega) (by omega) (zE_state hi) rfl inX3 9 (by omega) rfl hl rfl hdg kk
theorem pf_X3_crowdedOut (X : zC p m c cc nL s args own D k a) (hH : zH D k a s g H locs) {i : Nat} (hi : i < 6) {idx : Nat} {x : Int32}  (hl : .fieldLink own idx "KeptPlans$State" "crowdedOut" "I" ∈ GW) (hdg : decode cc pc = .ok (.putfield idx, 3))
    (kk : ∀ (H1 : Heap) (locs1 : List Loc), zH D k a s (zUp g i (upd (g i) 151 x)) H1 locs1 → W p l e R s m args below meth c H1 locs1 cells slots Q (F0 m (pc + 3) ls rest)) : W p l e R s m args below meth c H locs cells slots Q (F0 m pc ls (.int x :: .ref (a i 0) :: rest)) :=
  z_put X hH (C := RX3) (T := TX3) (N := 10) (by omega) (by omega) (zE_state hi) rfl inX3 tyX3 tyX3_ok nmX3 9 (by omega) rfl hl rfl (ty := .int) (by decide +kernel) rfl rfl (by simp [zMi]) (zUp g i (upd (g i) 151 x)) (by rw [zE_state hi]; simp [zUp, upd]) (z_ho hi (zo_0 (by omega) (by omega))) hdg kk
theorem gf_X5_now (X : zC p m c cc nL s args own D k a) (hH : zH D k a s g H locs)  {idx : Nat} (hl : .fieldLink own idx "KeptPlans" "now" "LKeptPlans$State;" ∈ GW) (hdg : decode cc pc = .ok (.getfield idx, 3))
    (kk : W p l e R s m args below meth c H locs cells slots Q (F0 m (pc + 3) ls (.ref (a 0 0) :: rest))) : W p l e R s m args below meth c H locs cells slots Q (F0 m pc ls (.ref (a 6 0) :: rest)) :=
  z_get X hH (C := RX5) (T := TX5) (N := 5) (by omega) (by omega) (zE_m) rfl inX5 0 (by omega) rfl hl rfl hdg kk
theorem gf_X5_snapshot (X : zC p m c cc nL s args own D k a) (hH : zH D k a s g H locs)  {idx : Nat} (hl : .fieldLink own idx "KeptPlans" "snapshot" "LKeptPlans$State;" ∈ GW) (hdg : decode cc pc = .ok (.getfield idx, 3))
    (kk : W p l e R s m args below meth c H locs cells slots Q (F0 m (pc + 3) ls (.ref (a 1 0) :: rest))) : W p l e R s m args below meth c H locs cells slots Q (F0 m pc ls (.ref (a 6 0) :: rest)) :=
  z_get X hH (C := RX5) (T := TX5) (N := 5) (by omega) (by omega) (zE_m) rfl inX5 1 (by omega) rfl hl rfl hdg kk
theorem gf_X5_history (X : zC p m c cc nL s args own D k a) (hH : zH D k a s g H locs)  {idx : Nat} (hl : .fieldLink own idx "KeptPlans" "history" "LKeptPlans$History;" ∈ GW) (hdg : decode cc pc = .ok (.getfield idx, 3))
    (kk : W p l e R s m args below meth c H locs cells slots Q (F0 m (pc + 3) ls (.ref (a 6 1) :: rest))) : W p l e R s m args below meth c H locs cells slots Q (F0 m pc ls (.ref (a 6 0) :: rest)) :=
  z_get X hH (C := RX5) (T := TX5) (N := 5) (by omega) (by omega) (zE_m) rfl inX5 2 (by omega) rfl hl rfl hdg kk
theorem gf_X5_text (X : zC p m c cc nL s args own D k a) (hH : zH D k a s g H locs)  {idx : Nat} (hl : .fieldLink own idx "KeptPlans" "text" "LKeptPlans$QuestionText;" ∈ GW) (hdg : decode cc pc = .ok (.getfield idx, 3))
    (kk : W p l e R s m args below meth c H locs cells slots Q (F0 m (pc + 3) ls (.ref (a 6 3) :: rest))) : W p l e R s m args below meth c H locs cells slots Q (F0 m pc ls (.ref (a 6 0) :: rest)) :=
  z_get X hH (C := RX5) (T := TX5) (N := 5) (by omega) (by omega) (zE_m) rfl inX5 3 (by omega) rfl hl rfl hdg kk
theorem gf_X5_hasSnapshot (X : zC p m c cc nL s args own D k a) (hH : zH D k a s g H locs)  {idx : Nat} (hl : .fieldLink own idx "KeptPlans" "hasSnapshot" "Z" ∈ GW) (hdg : decode cc pc = .ok (.getfield idx, 3))
    (kk : W p l e R s m args below meth c H locs cells slots Q (F0 m (pc + 3) ls (.int (g 6 5) :: rest))) : W p l e R s m args below meth c H locs cells slots Q (F0 m pc ls (.ref (a 6 0) :: rest)) :=
  z_get X hH (C := RX5) (T := TX5) (N := 5) (by omega) (by omega) (zE_m) rfl inX5 4 (by omega) rfl hl rfl hdg kk
theorem pf_X5_hasSnapshot (X : zC p m c cc nL s args own D k a) (hH : zH D k a s g H locs)  {idx : Nat} {x : Int32} (hx : x = 0 ∨ x = 1) (hl : .fieldLink own idx "KeptPlans" "hasSnapshot" "Z" ∈ GW) (hdg : decode cc pc = .ok (.putfield idx, 3))
    (kk : ∀ (H1 : Heap) (locs1 : List Loc), zH D k a s (zUp g 6 (upd (g 6) 5 x)) H1 locs1 → W p l e R s m args below meth c H1 locs1 cells slots Q (F0 m (pc + 3) ls rest)) : W p l e R s m args below meth c H locs cells slots Q (F0 m pc ls (.int x :: .ref (a 6 0) :: rest)) :=
  z_put X hH (C := RX5) (T := TX5) (N := 5) (by omega) (by omega) (zE_m) rfl inX5 tyX5 tyX5_ok nmX5 4 (by omega) rfl hl rfl (ty := .boolean) (by decide +kernel) (by rcases hx with rfl | rfl <;> rfl) (by rcases hx with rfl | rfl <;> rfl) (by simp [zMi]) (zUp g 6 (upd (g 6) 5 x)) (by rw [zE_m]; simp [zMi, zUp, upd]) (zE_mi (fun j hj => zUp_n g _ (by omega)) (fun r hr hne => by rcases (show r = 0 ∨ r = 1 ∨ r = 2 ∨ r = 3 ∨ r = 4 ∨ r = 5 ∨ r = 6 ∨ r = 7 ∨ r = 8 ∨ r = 9 ∨ r = 10 by omega) with rfl | rfl | rfl | rfl | rfl | rfl | rfl | rfl | rfl | rfl | rfl <;> first | (exact absurd rfl hne) | (exact zMi_9 (fun j h1 h2 => zUp_n g _ (by omega))) | simp [zMi, zUp, upd])) hdg kk
theorem gf_X0_states (X : zC p m c cc nL s args own D k a) (hH : zH D k a s g H locs)  {idx : Nat} (hl : .fieldLink own idx "KeptPlans$History" "states" "[LKeptPlans$State;" ∈ GW) (hdg : decode cc pc = .ok (.getfield idx, 3))
    (kk : W p l e R s m args below meth c H locs cells slots Q (F0 m (pc + 3) ls (.ref (a 6 2) :: rest))) : W p l e R s m args below meth c H locs cells slots Q (F0 m pc ls (.ref (a 6 1) :: rest)) :=
  z_get X hH (C := RX0) (T := TX0) (N := 3) (by omega) (by omega) (zE_m) rfl inX0 0 (by omega) rfl hl rfl hdg kk
theorem gf_X0_next (X : zC p m c cc nL s args own D k a) (hH : zH D k a s g H locs)  {idx : Nat} (hl : .fieldLink own idx "KeptPlans$History" "next" "I" ∈ GW) (hdg : decode cc pc = .ok (.getfield idx, 3))
    (kk : W p l e R s m args below meth c H locs cells slots Q (F0 m (pc + 3) ls (.int (g 6 0) :: rest))) : W p l e R s m args below meth c H locs cells slots Q (F0 m pc ls (.ref (a 6 1) :: rest)) :=
  z_get X hH (C := RX0) (T := TX0) (N := 3) (by omega) (by omega) (zE_m) rfl inX0 1 (by omega) rfl hl rfl hdg kk
theorem pf_X0_next (X : zC p m c cc nL s args own D k a) (hH : zH D k a s g H locs)  {idx : Nat} {x : Int32}  (hl : .fieldLink own idx "KeptPlans$History" "next" "I" ∈ GW) (hdg : decode cc pc = .ok (.putfield idx, 3))
    (kk : ∀ (H1 : Heap) (locs1 : List Loc), zH D k a s (zUp g 6 (upd (g 6) 0 x)) H1 locs1 → W p l e R s m args below meth c H1 locs1 cells slots Q (F0 m (pc + 3) ls rest)) : W p l e R s m args below meth c H locs cells slots Q (F0 m pc ls (.int x :: .ref (a 6 1) :: rest)) :=
  z_put X hH (C := RX0) (T := TX0) (N := 3) (by omega) (by omega) (zE_m) rfl inX0 tyX0 tyX0_ok nmX0 1 (by omega) rfl hl rfl (ty := .int) (by decide +kernel) rfl rfl (by simp [zMi]) (zUp g 6 (upd (g 6) 0 x)) (by rw [zE_m]; simp [zMi, zUp, upd]) (zE_mi (fun j hj => zUp_n g _ (by omega)) (fun r hr hne => by rcases (show r = 0 ∨ r = 1 ∨ r = 2 ∨ r = 3 ∨ r = 4 ∨ r = 5 ∨ r = 6 ∨ r = 7 ∨ r = 8 ∨ r = 9 ∨ r = 10 by omega) with rfl | rfl | rfl | rfl | rfl | rfl | rfl | rfl | rfl | rfl | rfl <;> first | (exact absurd rfl hne) | (exact zMi_9 (fun j h1 h2 => zUp_n g _ (by omega))) | simp [zMi, zUp, upd])) hdg kk
theorem gf_X0_size (X : zC p m c cc nL s args own D k a) (hH : zH D k a s g H locs)  {idx : Nat} (hl : .fieldLink own idx "KeptPlans$History" "size" "I" ∈ GW) (hdg : decode cc pc = .ok (.getfield idx, 3))
    (kk : W p l e R s m args below meth c H locs cells slots Q (F0 m (pc + 3) ls (.int (g 6 1) :: rest))) : W p l e R s m args below meth c H locs cells slots Q (F0 m pc ls (.ref (a 6 1) :: rest)) :=
  z_get X hH (C := RX0) (T := TX0) (N := 3) (by omega) (by omega) (zE_m) rfl inX0 2 (by omega) rfl hl rfl hdg kk
theorem pf_X0_size (X : zC p m c cc nL s args own D k a) (hH : zH D k a s g H locs)  {idx : Nat} {x : Int32}  (hl : .fieldLink own idx "KeptPlans$History" "size" "I" ∈ GW) (hdg : decode cc pc = .ok (.putfield idx, 3))
    (kk : ∀ (H1 : Heap) (locs1 : List Loc), zH D k a s (zUp g 6 (upd (g 6) 1 x)) H1 locs1 → W p l e R s m args below meth c H1 locs1 cells slots Q (F0 m (pc + 3) ls rest)) : W p l e R s m args below meth c H locs cells slots Q (F0 m pc ls (.int x :: .ref (a 6 1) :: rest)) :=
  z_put X hH (C := RX0) (T := TX0) (N := 3) (by omega) (by omega) (zE_m) rfl inX0 tyX0 tyX0_ok nmX0 2 (by omega) rfl hl rfl (ty := .int) (by decide +kernel) rfl rfl (by simp [zMi]) (zUp g 6 (upd (g 6) 1 x)) (by rw [zE_m]; simp [zMi, zUp, upd]) (zE_mi (fun j hj => zUp_n g _ (by omega)) (fun r hr hne => by rcases (show r = 0 ∨ r = 1 ∨ r = 2 ∨ r = 3 ∨ r = 4 ∨ r = 5 ∨ r = 6 ∨ r = 7 ∨ r = 8 ∨ r = 9 ∨ r = 10 by omega) with rfl | rfl | rfl | rfl | rfl | rfl | rfl | rfl | rfl | rfl | rfl <;> first | (exact absurd rfl hne) | (exact zMi_9 (fun j h1 h2 => zUp_n g _ (by omega))) | simp [zMi, zUp, upd])) hdg kk
theorem gf_X2_signs (X : zC p m c cc nL s args own D k a) (hH : zH D k a s g H locs)  {idx : Nat} (hl : .fieldLink own idx "KeptPlans$QuestionText" "signs" "[C" ∈ GW) (hdg : decode cc pc = .ok (.getfield idx, 3))
    (kk : W p l e R s m args below meth c H locs cells slots Q (F0 m (pc + 3) ls (.ref (a 6 4) :: rest))) : W p l e R s m args below meth c H locs cells slots Q (F0 m pc ls (.ref (a 6 3) :: rest)) :=
  z_get X hH (C := RX2) (T := TX2) (N := 7) (by omega) (by omega) (zE_m) rfl inX2 0 (by omega) rfl hl rfl hdg kk
theorem gf_X2_length (X : zC p m c cc nL s args own D k a) (hH : zH D k a s g H locs)  {idx : Nat} (hl : .fieldLink own idx "KeptPlans$QuestionText" "length" "I" ∈ GW) (hdg : decode cc pc = .ok (.getfield idx, 3))
    (kk : W p l e R s m args below meth c H locs cells slots Q (F0 m (pc + 3) ls (.int (g 6 2) :: rest))) : W p l e R s m args below meth c H locs cells slots Q (F0 m pc ls (.ref (a 6 3) :: rest)) :=
  z_get X hH (C := RX2) (T := TX2) (N := 7) (by omega) (by omega) (zE_m) rfl inX2 1 (by omega) rfl hl rfl hdg kk
theorem pf_X2_length (X : zC p m c cc nL s args own D k a) (hH : zH D k a s g H locs)  {idx : Nat} {x : Int32}  (hl : .fieldLink own idx "KeptPlans$QuestionText" "length" "I" ∈ GW) (hdg : decode cc pc = .ok (.putfield idx, 3))
    (kk : ∀ (H1 : Heap) (locs1 : List Loc), zH D k a s (zUp g 6 (upd (g 6) 2 x)) H1 locs1 → W p l e R s m args below meth c H1 locs1 cells slots Q (F0 m (pc + 3) ls rest)) : W p l e R s m args below meth c H locs cells slots Q (F0 m pc ls (.int x :: .ref (a 6 3) :: rest)) :=
  z_put X hH (C := RX2) (T := TX2) (N := 7) (by omega) (by omega) (zE_m) rfl inX2 tyX2 tyX2_ok nmX2 1 (by omega) rfl hl rfl (ty := .int) (by decide +kernel) rfl rfl (by simp [zMi]) (zUp g 6 (upd (g 6) 2 x)) (by rw [zE_m]; simp [zMi, zUp, upd]) (zE_mi (fun j hj => zUp_n g _ (by omega)) (fun r hr hne => by rcases (show r = 0 ∨ r = 1 ∨ r = 2 ∨ r = 3 ∨ r = 4 ∨ r = 5 ∨ r = 6 ∨ r = 7 ∨ r = 8 ∨ r = 9 ∨ r = 10 by omega) with rfl | rfl | rfl | rfl | rfl | rfl | rfl | rfl | rfl | rfl | rfl <;> first | (exact absurd rfl hne) | (exact zMi_9 (fun j h1 h2 => zUp_n g _ (by omega))) | simp [zMi, zUp, upd])) hdg kk
theorem gf_X2_words (X : zC p m c cc nL s args own D k a) (hH : zH D k a s g H locs)  {idx : Nat} (hl : .fieldLink own idx "KeptPlans$QuestionText" "words" "[I" ∈ GW) (hdg : decode cc pc = .ok (.getfield idx, 3))
    (kk : W p l e R s m args below meth c H locs cells slots Q (F0 m (pc + 3) ls (.ref (a 6 5) :: rest))) : W p l e R s m args below meth c H locs cells slots Q (F0 m pc ls (.ref (a 6 3) :: rest)) :=
  z_get X hH (C := RX2) (T := TX2) (N := 7) (by omega) (by omega) (zE_m) rfl inX2 2 (by omega) rfl hl rfl hdg kk
theorem gf_X2_tables (X : zC p m c cc nL s args own D k a) (hH : zH D k a s g H locs)  {idx : Nat} (hl : .fieldLink own idx "KeptPlans$QuestionText" "tables" "[I" ∈ GW) (hdg : decode cc pc = .ok (.getfield idx, 3))
    (kk : W p l e R s m args below meth c H locs cells slots Q (F0 m (pc + 3) ls (.ref (a 6 6) :: rest))) : W p l e R s m args below meth c H locs cells slots Q (F0 m pc ls (.ref (a 6 3) :: rest)) :=
  z_get X hH (C := RX2) (T := TX2) (N := 7) (by omega) (by omega) (zE_m) rfl inX2 3 (by omega) rfl hl rfl hdg kk
theorem gf_X2_numbers (X : zC p m c cc nL s args own D k a) (hH : zH D k a s g H locs)  {idx : Nat} (hl : .fieldLink own idx "KeptPlans$QuestionText" "numbers" "[I" ∈ GW) (hdg : decode cc pc = .ok (.getfield idx, 3))
    (kk : W p l e R s m args below meth c H locs cells slots Q (F0 m (pc + 3) ls (.ref (a 6 7) :: rest))) : W p l e R s m args below meth c H locs cells slots Q (F0 m pc ls (.ref (a 6 3) :: rest)) :=
  z_get X hH (C := RX2) (T := TX2) (N := 7) (by omega) (by omega) (zE_m) rfl inX2 4 (by omega) rfl hl rfl hdg kk
theorem gf_X2_lines (X : zC p m c cc nL s args own D k a) (hH : zH D k a s g H locs)  {idx : Nat} (hl : .fieldLink own idx "KeptPlans$QuestionText" "lines" "I" ∈ GW) (hdg : decode cc pc = .ok (.getfield idx, 3))
    (kk : W p l e R s m args below meth c H locs cells slots Q (F0 m (pc + 3) ls (.int (g 6 3) :: rest))) : W p l e R s m args below meth c H locs cells slots Q (F0 m pc ls (.ref (a 6 3) :: rest)) :=
  z_get X hH (C := RX2) (T := TX2) (N := 7) (by omega) (by omega) (zE_m) rfl inX2 5 (by omega) rfl hl rfl hdg kk
theorem pf_X2_lines (X : zC p m c cc nL s args own D k a) (hH : zH D k a s g H locs)  {idx : Nat} {x : Int32}  (hl : .fieldLink own idx "KeptPlans$QuestionText" "lines" "I" ∈ GW) (hdg : decode cc pc = .ok (.putfield idx, 3))
    (kk : ∀ (H1 : Heap) (locs1 : List Loc), zH D k a s (zUp g 6 (upd (g 6) 3 x)) H1 locs1 → W p l e R s m args below meth c H1 locs1 cells slots Q (F0 m (pc + 3) ls rest)) : W p l e R s m args below meth c H locs cells slots Q (F0 m pc ls (.int x :: .ref (a 6 3) :: rest)) :=
  z_put X hH (C := RX2) (T := TX2) (N := 7) (by omega) (by omega) (zE_m) rfl inX2 tyX2 tyX2_ok nmX2 5 (by omega) rfl hl rfl (ty := .int) (by decide +kernel) rfl rfl (by simp [zMi]) (zUp g 6 (upd (g 6) 3 x)) (by rw [zE_m]; simp [zMi, zUp, upd]) (zE_mi (fun j hj => zUp_n g _ (by omega)) (fun r hr hne => by rcases (show r = 0 ∨ r = 1 ∨ r = 2 ∨ r = 3 ∨ r = 4 ∨ r = 5 ∨ r = 6 ∨ r = 7 ∨ r = 8 ∨ r = 9 ∨ r = 10 by omega) with rfl | rfl | rfl | rfl | rfl | rfl | rfl | rfl | rfl | rfl | rfl <;> first | (exact absurd rfl hne) | (exact zMi_9 (fun j h1 h2 => zUp_n g _ (by omega))) | simp [zMi, zUp, upd])) hdg kk
theorem gf_X2_at (X : zC p m c cc nL s args own D k a) (hH : zH D k a s g H locs)  {idx : Nat} (hl : .fieldLink own idx "KeptPlans$QuestionText" "at" "I" ∈ GW) (hdg : decode cc pc = .ok (.getfield idx, 3))
    (kk : W p l e R s m args below meth c H locs cells slots Q (F0 m (pc + 3) ls (.int (g 6 4) :: rest))) : W p l e R s m args below meth c H locs cells slots Q (F0 m pc ls (.ref (a 6 3) :: rest)) :=
  z_get X hH (C := RX2) (T := TX2) (N := 7) (by omega) (by omega) (zE_m) rfl inX2 6 (by omega) rfl hl rfl hdg kk
theorem pf_X2_at (X : zC p m c cc nL s args own D k a) (hH : zH D k a s g H locs)  {idx : Nat} {x : Int32}  (hl : .fieldLink own idx "KeptPlans$QuestionText" "at" "I" ∈ GW) (hdg : decode cc pc = .ok (.putfield idx, 3))
    (kk : ∀ (H1 : Heap) (locs1 : List Loc), zH D k a s (zUp g 6 (upd (g 6) 4 x)) H1 locs1 → W p l e R s m args below meth c H1 locs1 cells slots Q (F0 m (pc + 3) ls rest)) : W p l e R s m args below meth c H locs cells slots Q (F0 m pc ls (.int x :: .ref (a 6 3) :: rest)) :=
  z_put X hH (C := RX2) (T := TX2) (N := 7) (by omega) (by omega) (zE_m) rfl inX2 tyX2 tyX2_ok nmX2 6 (by omega) rfl hl rfl (ty := .int) (by decide +kernel) rfl rfl (by simp [zMi]) (zUp g 6 (upd (g 6) 4 x)) (by rw [zE_m]; simp [zMi, zUp, upd]) (zE_mi (fun j hj => zUp_n g _ (by omega)) (fun r hr hne => by rcases (show r = 0 ∨ r = 1 ∨ r = 2 ∨ r = 3 ∨ r = 4 ∨ r = 5 ∨ r = 6 ∨ r = 7 ∨ r = 8 ∨ r = 9 ∨ r = 10 by omega) with rfl | rfl | rfl | rfl | rfl | rfl | rfl | rfl | rfl | rfl | rfl <;> first | (exact absurd rfl hne) | (exact zMi_9 (fun j h1 h2 => zUp_n g _ (by omega))) | simp [zMi, zUp, upd])) hdg kk
end ZR
end
section
theorem qm_static : .static Lib.Math.min.name ∈ GW := q_253
theorem qm_init : .initialized "java/lang/Math" ∈ GW := q_7
theorem qm_code : .code Lib.Math.min.name Lib.Math.min.code 2 (some .int) ∈ GW := q_254
theorem qa_static : .static Lib.Math.abs.name ∈ GW := q_289
theorem qa_code : .code Lib.Math.abs.name Lib.Math.abs.code 1 (some .int) ∈ GW := q_290
/-! rows that call, read rows of the memory, count in Nat -/
def zLkV (own : String) (idx : Nat) (y : MethodName) (b : ByteArray) (n : Nat) (ret : Option FieldType) (na : Nat) : Prop := .methodLink own idx y ∈ GW ∧ .instanceMethod y ∈ GW ∧ .selects y.cls y y ∈ GW ∧ .initialized y.cls ∈ GW ∧ .code y b n ret ∈ GW ∧ (y.cls ≠ "java/lang/invoke/MethodHandle" ∧ y.cls ≠ "java/lang/invoke/VarHandle" ∧ (parseMethodDescriptor y.desc).map (fun d => d.parameters.length) = some na)
def zLkS (own : String) (idx : Nat) (y : MethodName) (b : ByteArray) (n : Nat) (ret : Option FieldType) (na : Nat) : Prop := .methodLink own idx y ∈ GW ∧ .static y ∈ GW ∧ .initialized y.cls ∈ GW ∧ .code y b n ret ∈ GW ∧ (y.cls ≠ "java/lang/invoke/MethodHandle" ∧ y.cls ≠ "java/lang/invoke/VarHandle" ∧ (parseMethodDescriptor y.desc).map (fun d => d.parameters.length) = some na)
def zLkN (y : MethodName) (b : ByteArray) (n : Nat) (ret : Option FieldType) (na : Nat) : Prop := .static y ∈ GW ∧ .initialized y.cls ∈ GW ∧ .code y b n ret ∈ GW ∧ (y.cls ≠ "java/lang/invoke/MethodHandle" ∧ y.cls ≠ "java/lang/invoke/VarHandle" ∧ (parseMethodDescriptor y.desc).map (fun d => d.parameters.length) = some na)
section ZC
variable {p : Program} {l : Launch} {e : Env} {R : Room} {s : State} {m : MethodId} {args : Array Value} {below : List Frame} {meth : Method} {c : Code} {H : Heap} {locs : List Loc} {cells slots : Nat} {Q : State → Prop}
variable {cc : ByteArray} {nL : Nat} {own : String} {pc : Nat} {ls : Array Slot} {rest st : List Value} {D : va_G} {k : Nat → ClassId} {a : Nat → Nat → Nat} {g : Mem}
variable {y : MethodName} {b : ByteArray} {n fr lo na idx : Nat} {ret : FieldType} {As : List Value}
theorem z_pre (X : zC p m c cc nL s args own D k a) (hH : zH D k a s g H locs) : ∀ U : State, U.heap = H → s.WarmedH U.vm → va_Pc As (zPc D k a g) As.toArray U := by
  obtain ⟨-, hK, hI, hX⟩ := X
  intro U hU hW
  refine ⟨rfl, by rw [hU]; exact hH.1, va_K.moved hW.alike hK, hI, hX.go hW (fun q h1 h2 => by rw [hU]; exact hH.2.2.1 q h1 h2)⟩
theorem z_cwV (X : zC p m c cc nL s args own D k a) {r : Option FieldType} (lk : zLkV own idx y b n r na) (hR : fr + 1 ≤ R.frames ∧ 8 + (n + 11) + lo ≤ R.locals) : CallW R s args own y.cls idx y b n r (.code y b n r :: GW) (zRoom fr lo) 0 0 na := by
  obtain ⟨⟨-, -, -, -, hts⟩, -⟩ := X
  obtain ⟨h1, h2, h3, h4, h5, h6⟩ := lk
  exact ⟨callB_of na hts (zGood (y := y) (b := b) (n := n) (r := r) h5) rfl rfl rfl (hts _ h4) (hts _ h1) h6 hR, hts _ h2, hts _ h3⟩
theorem z_cwS (X : zC p m c cc nL s args own D k a) {r : Option FieldType} (lk : zLkS own idx y b n r na) (hR : fr + 1 ≤ R.frames ∧ 8 + (n + 11) + lo ≤ R.locals) : CallB R s args own idx y b n r (.code y b n r :: GW) (zRoom fr lo) 0 0 na ∧ (Cond.static y).before args s = true := by
  obtain ⟨⟨-, -, -, -, hts⟩, -⟩ := X
  obtain ⟨h1, h2, h4, h5, h6⟩ := lk
  exact ⟨callB_of na hts (zGood (y := y) (b := b) (n := n) (r := r) h5) rfl rfl rfl (hts _ h4) (hts _ h1) h6 hR, hts _ h2⟩
theorem z_callVi {post : Int32 → Mem → Prop} {i q : Nat} (X : zC p m c cc nL s args own D k a) (hH : zH D k a s g H locs) (hM : zI l y b n ret fr lo D k a (.ref (a i q) :: As) g post) (lk : zLkV own idx y b n (some ret) na) (hrc : ∃ cell : Cell, H[a i q]? = some cell ∧ cell.vm.isStatics = false ∧ s.vm.findClass y.cls = some cell.cls) (rest : List Value) (hst : st = As.reverse ++ .ref (a i q) :: rest) (hna : As.length = na) (hls : ls.size = nL) (hw : (rest.map fun v => v.category).sum ≤ 8) (hR : fr + 1 ≤ R.frames ∧ 8 + (n + 11) + lo ≤ R.locals) (hcs : cells ≤ R.cells ∧ slots ≤ R.slots) (hdg : decode cc pc = .ok (.invokevirtual idx, 3))
    (kk : ∀ (r : Int32) (g' : Mem) (H1 : Heap) (locs1 : List Loc), post r g' → zH D k a s g' H1 locs1 → W p l e R s m args below meth c H1 locs1 cells slots Q (F0 m (pc + 3) ls (.int r :: rest))) : W p l e R s m args below meth c H locs cells slots Q (F0 m pc ls st) :=
  va_calli (va_runV X.1 hM (z_cwV X lk hR) ⟨zPc.blind, hrc, z_pre X hH⟩ rfl hna hls hst (lv_room hw) hdg hcs) hH.2 (fun _ _ h => h) (fun _ h => h) (fun r u t H1 locs1 ht hvm hw hB hz hk hS => kk r u H1 locs1 hw ⟨by rw [← ht]; exact hB, hS⟩)
theorem z_callVv {post : Mem → Prop} {i q : Nat} (X : zC p m c cc nL s args own D k a) (hH : zH D k a s g H locs) (hM : zV l y b n fr lo D k a (.ref (a i q) :: As) g post) (lk : zLkV own idx y b n none na) (hrc : ∃ cell : Cell, H[a i q]? = some cell ∧ cell.vm.isStatics = false ∧ s.vm.findClass y.cls = some cell.cls) (rest : List Value) (hst : st = As.reverse ++ .ref (a i q) :: rest) (hna : As.length = na) (hls : ls.size = nL) (hw : (rest.map fun v => v.category).sum ≤ 8) (hR : fr + 1 ≤ R.frames ∧ 8 + (n + 11) + lo ≤ R.locals) (hcs : cells ≤ R.cells ∧ slots ≤ R.slots) (hdg : decode cc pc = .ok (.invokevirtual idx, 3))
    (kk : ∀ (g' : Mem) (H1 : Heap) (locs1 : List Loc), post g' → zH D k a s g' H1 locs1 → W p l e R s m args below meth c H1 locs1 cells slots Q (F0 m (pc + 3) ls rest)) : W p l e R s m args below meth c H locs cells slots Q (F0 m pc ls st) :=
  va_callv (va_runV X.1 hM (z_cwV X lk hR) ⟨zPc.blind, hrc, z_pre X hH⟩ rfl hna hls hst (lv_room hw) hdg hcs) hH.2 (fun _ _ h => h) (fun _ h => h) (fun u t H1 locs1 ht hvm hw hB hz hk hS => kk u H1 locs1 hw ⟨by rw [← ht]; exact hB, hS⟩)
theorem z_callVr {ad : Nat} {i q : Nat} (X : zC p m c cc nL s args own D k a) (hH : zH D k a s g H locs) (hM : zR l y b n ret fr lo D k a (.ref (a i q) :: As) g ad) (lk : zLkV own idx y b n (some ret) na) (hrc : ∃ cell : Cell, H[a i q]? = some cell ∧ cell.vm.isStatics = false ∧ s.vm.findClass y.cls = some cell.cls) (rest : List Value) (hst : st = As.reverse ++ .ref (a i q) :: rest) (hna : As.length = na) (hls : ls.size = nL) (hw : (rest.map fun v => v.category).sum ≤ 8) (hR : fr + 1 ≤ R.frames ∧ 8 + (n + 11) + lo ≤ R.locals) (hcs : cells ≤ R.cells ∧ slots ≤ R.slots) (hdg : decode cc pc = .ok (.invokevirtual idx, 3))
    (kk : ∀ (H1 : Heap) (locs1 : List Loc), zH D k a s g H1 locs1 → W p l e R s m args below meth c H1 locs1 cells slots Q (F0 m (pc + 3) ls (.ref ad :: rest))) : W p l e R s m args below meth c H locs cells slots Q (F0 m pc ls st) :=
  va_callr (va_runV X.1 hM (z_cwV X lk hR) ⟨zPc.blind, hrc, z_pre X hH⟩ rfl hna hls hst (lv_room hw) hdg hcs) hH.2 (fun _ _ h => h) (fun _ h => h) (fun u ra t H1 locs1 ht hvm hw hB hz hk hS => by
    obtain ⟨rfl, hB⟩ := hB
    exact kk H1 locs1 ⟨by rw [← ht]; exact hB, hS⟩)
theorem z_callSi {post : Int32 → Mem → Prop} (X : zC p m c cc nL s args own D k a) (hH : zH D k a s g H locs) (hM : zI l y b n ret fr lo D k a As g post) (lk : zLkS own idx y b n (some ret) na) (rest : List Value) (hst : st = As.reverse ++ rest) (hna : As.length = na) (hls : ls.size = nL) (hw : (rest.map fun v => v.category).sum ≤ 8) (hR : fr + 1 ≤ R.frames ∧ 8 + (n + 11) + lo ≤ R.locals) (hcs : cells ≤ R.cells ∧ slots ≤ R.slots) (hdg : decode cc pc = .ok (.invokestatic idx, 3))
    (kk : ∀ (r : Int32) (g' : Mem) (H1 : Heap) (locs1 : List Loc), post r g' → zH D k a s g' H1 locs1 → W p l e R s m args below meth c H1 locs1 cells slots Q (F0 m (pc + 3) ls (.int r :: rest))) : W p l e R s m args below meth c H locs cells slots Q (F0 m pc ls st) :=
  va_calli (va_runS X.1 hM (z_cwS X lk hR) ⟨zPc.blind, z_pre X hH⟩ rfl hna hls hst (lv_room hw) hdg hcs) hH.2 (fun _ _ h => h) (fun _ h => h) (fun r u t H1 locs1 ht hvm hw hB hz hk hS => kk r u H1 locs1 hw ⟨by rw [← ht]; exact hB, hS⟩)
theorem z_callSv {post : Mem → Prop} (X : zC p m c cc nL s args own D k a) (hH : zH D k a s g H locs) (hM : zV l y b n fr lo D k a As g post) (lk : zLkS own idx y b n none na) (rest : List Value) (hst : st = As.reverse ++ rest) (hna : As.length = na) (hls : ls.size = nL) (hw : (rest.map fun v => v.category).sum ≤ 8) (hR : fr + 1 ≤ R.frames ∧ 8 + (n + 11) + lo ≤ R.locals) (hcs : cells ≤ R.cells ∧ slots ≤ R.slots) (hdg : decode cc pc = .ok (.invokestatic idx, 3))
    (kk : ∀ (g' : Mem) (H1 : Heap) (locs1 : List Loc), post g' → zH D k a s g' H1 locs1 → W p l e R s m args below meth c H1 locs1 cells slots Q (F0 m (pc + 3) ls rest)) : W p l e R s m args below meth c H locs cells slots Q (F0 m pc ls st) :=
  va_callv (va_runS X.1 hM (z_cwS X lk hR) ⟨zPc.blind, z_pre X hH⟩ rfl hna hls hst (lv_room hw) hdg hcs) hH.2 (fun _ _ h => h) (fun _ h => h) (fun u t H1 locs1 ht hvm hw hB hz hk hS => kk u H1 locs1 hw ⟨by rw [← ht]; exact hB, hS⟩)
theorem z_callNi {post : Int32 → Mem → Prop} {host : String} (X : zC p m c cc nL s args own D k a) (hH : zH D k a s g H locs) (hM : zI l y b n ret fr lo D k a As g post) (lk : zLkN y b n (some ret) na) (hnw : va_Nw (.methodLinkNest own idx y host) s) (rest : List Value) (hst : st = As.reverse ++ rest) (hna : As.length = na) (hls : ls.size = nL) (hw : (rest.map fun v => v.category).sum ≤ 8) (hR : fr + 1 ≤ R.frames ∧ 8 + (n + 11) + lo ≤ R.locals) (hcs : cells ≤ R.cells ∧ slots ≤ R.slots) (hdg : decode cc pc = .ok (.invokestatic idx, 3))
    (kk : ∀ (r : Int32) (g' : Mem) (H1 : Heap) (locs1 : List Loc), post r g' → zH D k a s g' H1 locs1 → W p l e R s m args below meth c H1 locs1 cells slots Q (F0 m (pc + 3) ls (.int r :: rest))) : W p l e R s m args below meth c H locs cells slots Q (F0 m pc ls st) := by
  have hts := X.1.2.2.2.2
  obtain ⟨h2, h4, h5, h6⟩ := lk
  exact va_calli (va_runSN X.1 hM ⟨va_cnB na hts (zGood (y := y) (b := b) (n := n) (r := some ret) h5) rfl rfl rfl hnw (hts _ h4) h6 hR, hts _ h2, trivial⟩ ⟨zPc.blind, z_pre X hH⟩ rfl hna hls hst (lv_room hw) hdg hcs) hH.2 (fun _ _ h => h) (fun _ h => h) (fun r u t H1 locs1 ht hvm hw hB hz hk hS => kk r u H1 locs1 hw ⟨by rw [← ht]; exact hB, hS⟩)
theorem z_min (X : zC p m c cc nL s args own D k a) (hl : .methodLink own idx Lib.Math.min.name ∈ GW) (hls : ls.size = nL) (hfr : 1 ≤ R.frames) (hlo : (rest.map fun v => v.category).sum + 13 ≤ R.locals) (hcs : cells ≤ R.cells ∧ slots ≤ R.slots) {x z : Int32} (hdg : decode cc pc = .ok (.invokestatic idx, 3))
    (kk : W p l e R s m args below meth c H locs cells slots Q (F0 m (pc + 3) ls (.int (if z < x then z else x) :: rest))) : W p l e R s m args below meth c H locs cells slots Q (F0 m pc ls (.int z :: .int x :: rest)) := by
  obtain ⟨⟨hx, hb, hml, hown, hts⟩, -⟩ := X
  exact va_mmin hx hb (hml.trans hls.symm) hown (hts _ hl) (hts _ qm_static) (hts _ qm_init) (hts _ qm_code) hfr hlo hcs.1 hcs.2 hdg kk
theorem z_abs (X : zC p m c cc nL s args own D k a) (hl : .methodLink own idx Lib.Math.abs.name ∈ GW) (hls : ls.size = nL) (hfr : 1 ≤ R.frames) (hlo : (rest.map fun v => v.category).sum + 13 ≤ R.locals) (hcs : cells ≤ R.cells ∧ slots ≤ R.slots) {x : Int32} (hdg : decode cc pc = .ok (.invokestatic idx, 3))
    (kk : W p l e R s m args below meth c H locs cells slots Q (F0 m (pc + 3) ls (.int (if 0 ≤ x then x else 0 - x) :: rest))) : W p l e R s m args below meth c H locs cells slots Q (F0 m pc ls (.int x :: rest)) := by
  obtain ⟨⟨hx, hb, hml, hown, hts⟩, -⟩ := X
  exact va_mabs hx hb (hml.trans hls.symm) hown (hts _ hl) (hts _ qa_static) (hts _ qm_init) (hts _ qa_code) hfr hlo hcs.1 hcs.2 hdg kk
/-! receivers -/
theorem rv_X3 (X : zC p m c cc nL s args own D k a) (hH : zH D k a s g H locs) {i : Nat} (hi : i < 6) : ∃ cell : Cell, H[a i 0]? = some cell ∧ cell.vm.isStatics = false ∧ s.vm.findClass RX3 = some cell.cls := z_recv X hH (by omega) (by omega) (zE_state hi) rfl
theorem rv_X4 (X : zC p m c cc nL s args own D k a) (hH : zH D k a s g H locs) {i t : Nat} (hi : i < 6) (ht : t < 4) : ∃ cell : Cell, H[a i (4 + t)]? = some cell ∧ cell.vm.isStatics = false ∧ s.vm.findClass RX4 = some cell.cls := z_recv X hH (by omega) (by omega) (zE_table hi ht) rfl
theorem rv_X1 (X : zC p m c cc nL s args own D k a) (hH : zH D k a s g H locs) {i t : Nat} (hi : i < 6) (ht : t < 12) : ∃ cell : Cell, H[a i (8 + t)]? = some cell ∧ cell.vm.isStatics = false ∧ s.vm.findClass RX1 = some cell.cls := z_recv X hH (by omega) (by omega) (zE_plan hi) rfl
theorem rv_X5 (X : zC p m c cc nL s args own D k a) (hH : zH D k a s g H locs) : ∃ cell : Cell, H[a 6 0]? = some cell ∧ cell.vm.isStatics = false ∧ s.vm.findClass RX5 = some cell.cls := z_recv X hH (by omega) (by omega) zE_m rfl
theorem rv_X0 (X : zC p m c cc nL s args own D k a) (hH : zH D k a s g H locs) : ∃ cell : Cell, H[a 6 1]? = some cell ∧ cell.vm.isStatics = false ∧ s.vm.findClass RX0 = some cell.cls := z_recv X hH (by omega) (by omega) zE_m rfl
theorem rv_X2 (X : zC p m c cc nL s args own D k a) (hH : zH D k a s g H locs) : ∃ cell : Cell, H[a 6 3]? = some cell ∧ cell.vm.isStatics = false ∧ s.vm.findClass RX2 = some cell.cls := z_recv X hH (by omega) (by omega) zE_m rfl
theorem ar_tabs (X : zC p m c cc nL s args own D k a) (hH : zH D k a s g H locs) {i : Nat} (hi : i < 6) (j : Nat) (hj : j < 4) (hdg : decode cc pc = .ok (.aaload, 1)) (kk : W p l e R s m args below meth c H locs cells slots Q (F0 m (pc + 1) ls (.ref (a i (4 + j)) :: rest))) : W p l e R s m args below meth c H locs cells slots Q (F0 m pc ls (.int (nI j) :: .ref (a i 1) :: rest)) :=
  z_aald X hH (by omega) (by omega) (zE_tabs hi) (t0 := 2) rfl (by omega) j hj rfl hdg kk
theorem ar_plans (X : zC p m c cc nL s args own D k a) (hH : zH D k a s g H locs) {i : Nat} (hi : i < 6) (j : Nat) (hj : j < 12) (hdg : decode cc pc = .ok (.aaload, 1)) (kk : W p l e R s m args below meth c H locs cells slots Q (F0 m (pc + 1) ls (.ref (a i (8 + j)) :: rest))) : W p l e R s m args below meth c H locs cells slots Q (F0 m pc ls (.int (nI j) :: .ref (a i 2) :: rest)) :=
  z_aald X hH (by omega) (by omega) (zE_plans hi) (t0 := 3) rfl (by omega) j hj rfl hdg kk
theorem ar_states (X : zC p m c cc nL s args own D k a) (hH : zH D k a s g H locs) (j : Nat) (hj : j < 4) (hdg : decode cc pc = .ok (.aaload, 1)) (kk : W p l e R s m args below meth c H locs cells slots Q (F0 m (pc + 1) ls (.ref (a (2 + j) 0) :: rest))) : W p l e R s m args below meth c H locs cells slots Q (F0 m pc ls (.int (nI j) :: .ref (a 6 2) :: rest)) :=
  z_aald (i := 6) (q := 2) X hH (by omega) (by omega) zE_m (t0 := 4) rfl (by omega) j hj rfl hdg kk
theorem ar_sets (X : zC p m c cc nL s args own D k a) (hH : zH D k a s g H locs) {i : Nat} (hi : i < 6) (j : Nat) (hj : j < 5) (hdg : decode cc pc = .ok (.iaload, 1)) (kk : W p l e R s m args below meth c H locs cells slots Q (F0 m (pc + 1) ls (.int (g i (8 + j)) :: rest))) : W p l e R s m args below meth c H locs cells slots Q (F0 m pc ls (.int (nI j) :: .ref (a i 3) :: rest)) :=
  z_iald X hH (by omega) (by omega) (zE_sets hi) (by omega) j hj hdg (by rw [if_pos hj]; exact kk)
theorem ar_signs (X : zC p m c cc nL s args own D k a) (hH : zH D k a s g H locs) (j : Nat) (hj : j < 80) (hdg : decode cc pc = .ok (.caload, 1)) (kk : W p l e R s m args below meth c H locs cells slots Q (F0 m (pc + 1) ls (.int (g 7 j) :: rest))) : W p l e R s m args below meth c H locs cells slots Q (F0 m pc ls (.int (nI j) :: .ref (a 6 4) :: rest)) :=
  z_cald (i := 6) (q := 4) X hH (by omega) (by omega) zE_m (by omega) j hj hdg kk
theorem ar_words (X : zC p m c cc nL s args own D k a) (hH : zH D k a s g H locs) (j : Nat) (hj : j < 11) (hdg : decode cc pc = .ok (.iaload, 1)) (kk : W p l e R s m args below meth c H locs cells slots Q (F0 m (pc + 1) ls (.int (g 8 j) :: rest))) : W p l e R s m args below meth c H locs cells slots Q (F0 m pc ls (.int (nI j) :: .ref (a 6 5) :: rest)) :=
  z_iald (i := 6) (q := 5) X hH (by omega) (by omega) zE_m (by omega) j hj hdg kk
theorem ar_tables (X : zC p m c cc nL s args own D k a) (hH : zH D k a s g H locs) (j : Nat) (hj : j < 11) (hdg : decode cc pc = .ok (.iaload, 1)) (kk : W p l e R s m args below meth c H locs cells slots Q (F0 m (pc + 1) ls (.int (g 9 j) :: rest))) : W p l e R s m args below meth c H locs cells slots Q (F0 m pc ls (.int (nI j) :: .ref (a 6 6) :: rest)) :=
  z_iald (i := 6) (q := 6) X hH (by omega) (by omega) zE_m (by omega) j hj hdg kk
theorem ar_numbers (X : zC p m c cc nL s args own D k a) (hH : zH D k a s g H locs) (j : Nat) (hj : j < 11) (hdg : decode cc pc = .ok (.iaload, 1)) (kk : W p l e R s m args below meth c H locs cells slots Q (F0 m (pc + 1) ls (.int (g 17 j) :: rest))) : W p l e R s m args below meth c H locs cells slots Q (F0 m pc ls (.int (nI j) :: .ref (a 6 7) :: rest)) :=
  z_iald (i := 6) (q := 7) X hH (by omega) (by omega) zE_m (by omega) j hj hdg kk
theorem zMi_ne {g' : Mem} {q : Nat} (hq : q ≠ 9) (h6 : g' 6 = g 6) (h18 : g' 18 = g 18) (h7 : q ≠ 4 → g' 7 = g 7) (h8 : q ≠ 5 → g' 8 = g 8) (h9 : q ≠ 6 → g' 9 = g 9) (h17 : q ≠ 7 → g' 17 = g 17) (h19 : q ≠ 10 → g' 19 = g 19) (hs : ∀ j, 10 ≤ j → j < 17 → g' j = g j) : ∀ r, r < 11 → r ≠ q → zMi k a g' r = zMi k a g r := by
  intro r hr hne
  rcases (show r = 0 ∨ r = 1 ∨ r = 2 ∨ r = 3 ∨ r = 4 ∨ r = 5 ∨ r = 6 ∨ r = 7 ∨ r = 8 ∨ r = 9 ∨ r = 10 by omega) with rfl | rfl | rfl | rfl | rfl | rfl | rfl | rfl | rfl | rfl | rfl
  · simp [zMi, h6]
  · simp [zMi, h6]
  · simp [zMi]
  · simp [zMi, h6]
  · simp [zMi, h7 (Ne.symm hne)]
  · simp [zMi, h8 (Ne.symm hne)]
  · simp [zMi, h9 (Ne.symm hne)]
  · simp [zMi, h17 (Ne.symm hne)]
  · simp [zMi, h18]
  · exact zMi_9 hs
  · simp [zMi, h19 (Ne.symm hne)]
theorem as_sets (X : zC p m c cc nL s args own D k a) (hH : zH D k a s g H locs) {i : Nat} (hi : i < 6) (j : Nat) (hj : j < 5) {x : Int32} (hdg : decode cc pc = .ok (.iastore, 1)) (kk : ∀ (H1 : Heap) (locs1 : List Loc), zH D k a s (zUp g i (upd (g i) (8 + j) x)) H1 locs1 → W p l e R s m args below meth c H1 locs1 cells slots Q (F0 m (pc + 1) ls rest)) : W p l e R s m args below meth c H locs cells slots Q (F0 m pc ls (.int x :: .int (nI j) :: .ref (a i 3) :: rest)) := by
  refine z_iast X hH (by omega) (by omega) (zE_sets hi) (by omega) j hj (zUp g i (upd (g i) (8 + j) x)) ?_ (z_ho hi (zo_3 (by omega) (by omega))) hdg kk
  rw [zE_sets hi, zUp_s]
  congr 3
  congr 1
  funext r
  by_cases h1 : r = j
  · subst h1
    simp [upd, hj]
  · have h2 : ¬ 8 + r = 8 + j := by omega
    simp only [upd, h1, h2, if_false]
theorem as_signs (X : zC p m c cc nL s args own D k a) (hH : zH D k a s g H locs) (j : Nat) (hj : j < 80) {x : Int32} (hx : vp_nar .char x = x) (hdg : decode cc pc = .ok (.castore, 1)) (kk : ∀ (H1 : Heap) (locs1 : List Loc), zH D k a s (zUp g 7 (upd (g 7) j x)) H1 locs1 → W p l e R s m args below meth c H1 locs1 cells slots Q (F0 m (pc + 1) ls rest)) : W p l e R s m args below meth c H locs cells slots Q (F0 m pc ls (.int x :: .int (nI j) :: .ref (a 6 4) :: rest)) := by
  refine z_cast (i := 6) (q := 4) X hH (by omega) (by omega) zE_m (by omega) j hj hx (zUp g 7 (upd (g 7) j x)) ?_ (zE_mi (fun r hr => zUp_n g _ (by omega)) (zMi_ne (by omega) (zUp_n g _ (by omega)) (zUp_n g _ (by omega)) (fun h => by first | exact absurd rfl h | exact zUp_n g _ (by omega)) (fun h => by first | exact absurd rfl h | exact zUp_n g _ (by omega)) (fun h => by first | exact absurd rfl h | exact zUp_n g _ (by omega)) (fun h => by first | exact absurd rfl h | exact zUp_n g _ (by omega)) (fun h => by first | exact absurd rfl h | exact zUp_n g _ (by omega)) (fun r h1 h2 => zUp_n g _ (by omega)))) hdg kk
  rw [zE_m]
  simp [zMi, zUp]
theorem as_words (X : zC p m c cc nL s args own D k a) (hH : zH D k a s g H locs) (j : Nat) (hj : j < 11) {x : Int32} (hdg : decode cc pc = .ok (.iastore, 1)) (kk : ∀ (H1 : Heap) (locs1 : List Loc), zH D k a s (zUp g 8 (upd (g 8) j x)) H1 locs1 → W p l e R s m args below meth c H1 locs1 cells slots Q (F0 m (pc + 1) ls rest)) : W p l e R s m args below meth c H locs cells slots Q (F0 m pc ls (.int x :: .int (nI j) :: .ref (a 6 5) :: rest)) := by
  refine z_iast (i := 6) (q := 5) X hH (by omega) (by omega) zE_m (by omega) j hj (zUp g 8 (upd (g 8) j x)) ?_ (zE_mi (fun r hr => zUp_n g _ (by omega)) (zMi_ne (by omega) (zUp_n g _ (by omega)) (zUp_n g _ (by omega)) (fun h => by first | exact absurd rfl h | exact zUp_n g _ (by omega)) (fun h => by first | exact absurd rfl h | exact zUp_n g _ (by omega)) (fun h => by first | exact absurd rfl h | exact zUp_n g _ (by omega)) (fun h => by first | exact absurd rfl h | exact zUp_n g _ (by omega)) (fun h => by first | exact absurd rfl h | exact zUp_n g _ (by omega)) (fun r h1 h2 => zUp_n g _ (by omega)))) hdg kk
  rw [zE_m]
  simp [zMi, zUp]
theorem as_tables (X : zC p m c cc nL s args own D k a) (hH : zH D k a s g H locs) (j : Nat) (hj : j < 11) {x : Int32} (hdg : decode cc pc = .ok (.iastore, 1)) (kk : ∀ (H1 : Heap) (locs1 : List Loc), zH D k a s (zUp g 9 (upd (g 9) j x)) H1 locs1 → W p l e R s m args below meth c H1 locs1 cells slots Q (F0 m (pc + 1) ls rest)) : W p l e R s m args below meth c H locs cells slots Q (F0 m pc ls (.int x :: .int (nI j) :: .ref (a 6 6) :: rest)) := by
  refine z_iast (i := 6) (q := 6) X hH (by omega) (by omega) zE_m (by omega) j hj (zUp g 9 (upd (g 9) j x)) ?_ (zE_mi (fun r hr => zUp_n g _ (by omega)) (zMi_ne (by omega) (zUp_n g _ (by omega)) (zUp_n g _ (by omega)) (fun h => by first | exact absurd rfl h | exact zUp_n g _ (by omega)) (fun h => by first | exact absurd rfl h | exact zUp_n g _ (by omega)) (fun h => by first | exact absurd rfl h | exact zUp_n g _ (by omega)) (fun h => by first | exact absurd rfl h | exact zUp_n g _ (by omega)) (fun h => by first | exact absurd rfl h | exact zUp_n g _ (by omega)) (fun r h1 h2 => zUp_n g _ (by omega)))) hdg kk
  rw [zE_m]
  simp [zMi, zUp]
theorem as_numbers (X : zC p m c cc nL s args own D k a) (hH : zH D k a s g H locs) (j : Nat) (hj : j < 11) {x : Int32} (hdg : decode cc pc = .ok (.iastore, 1)) (kk : ∀ (H1 : Heap) (locs1 : List Loc), zH D k a s (zUp g 17 (upd (g 17) j x)) H1 locs1 → W p l e R s m args below meth c H1 locs1 cells slots Q (F0 m (pc + 1) ls rest)) : W p l e R s m args below meth c H locs cells slots Q (F0 m pc ls (.int x :: .int (nI j) :: .ref (a 6 7) :: rest)) := by
  refine z_iast (i := 6) (q := 7) X hH (by omega) (by omega) zE_m (by omega) j hj (zUp g 17 (upd (g 17) j x)) ?_ (zE_mi (fun r hr => zUp_n g _ (by omega)) (zMi_ne (by omega) (zUp_n g _ (by omega)) (zUp_n g _ (by omega)) (fun h => by first | exact absurd rfl h | exact zUp_n g _ (by omega)) (fun h => by first | exact absurd rfl h | exact zUp_n g _ (by omega)) (fun h => by first | exact absurd rfl h | exact zUp_n g _ (by omega)) (fun h => by first | exact absurd rfl h | exact zUp_n g _ (by omega)) (fun h => by first | exact absurd rfl h | exact zUp_n g _ (by omega)) (fun r h1 h2 => zUp_n g _ (by omega)))) hdg kk
  rw [zE_m]
  simp [zMi, zUp]
theorem n_iadd (hx : p.tables.exec = Jvm.exec) (hb : c.code = cc) {A B : Nat} (C : Nat) (h : A + B = C) (hdg : decode cc pc = .ok (.iadd, 1)) (kk : W p l e R s m args below meth c H locs cells slots Q (F0 m (pc + 1) ls (.int (nI C) :: rest))) : W p l e R s m args below meth c H locs cells slots Q (F0 m pc ls (.int (nI B) :: .int (nI A) :: rest)) :=
  lv_iadd hx hb hdg (by rw [nI_add, h]; exact kk)
theorem n_imul (hx : p.tables.exec = Jvm.exec) (hb : c.code = cc) {A B : Nat} (C : Nat) (h : A * B = C) (hdg : decode cc pc = .ok (.imul, 1)) (kk : W p l e R s m args below meth c H locs cells slots Q (F0 m (pc + 1) ls (.int (nI C) :: rest))) : W p l e R s m args below meth c H locs cells slots Q (F0 m pc ls (.int (nI B) :: .int (nI A) :: rest)) :=
  lv_imul hx hb hdg (by rw [pk_mul, h]; exact kk)
theorem n_isub (hx : p.tables.exec = Jvm.exec) (hb : c.code = cc) {A B : Nat} (C : Nat) (h : C + B = A) (hdg : decode cc pc = .ok (.isub, 1)) (kk : W p l e R s m args below meth c H locs cells slots Q (F0 m (pc + 1) ls (.int (nI C) :: rest))) : W p l e R s m args below meth c H locs cells slots Q (F0 m pc ls (.int (nI B) :: .int (nI A) :: rest)) :=
  lv_isub hx hb hdg (by rw [pk_sub (by omega), show A - B = C by omega]; exact kk)
theorem n_idiv (hx : p.tables.exec = Jvm.exec) (hb : c.code = cc) {A B : Nat} (C : Nat) (h : A / B = C) (hA : A < 2 ^ 31) (h0 : 0 < B) (hB : B < 2 ^ 31) (hdg : decode cc pc = .ok (.idiv, 1)) (kk : W p l e R s m args below meth c H locs cells slots Q (F0 m (pc + 1) ls (.int (nI C) :: rest))) : W p l e R s m args below meth c H locs cells slots Q (F0 m pc ls (.int (nI B) :: .int (nI A) :: rest)) :=
  lv_idiv hx hb hdg (nI_ne0 h0 hB) (by rw [pk_div hA h0 hB, h]; exact kk)
theorem n_irem (hx : p.tables.exec = Jvm.exec) (hb : c.code = cc) {A B : Nat} (C : Nat) (h : A % B = C) (hA : A < 2 ^ 31) (h0 : 0 < B) (hB : B < 2 ^ 31) (hdg : decode cc pc = .ok (.irem, 1)) (kk : W p l e R s m args below meth c H locs cells slots Q (F0 m (pc + 1) ls (.int (nI C) :: rest))) : W p l e R s m args below meth c H locs cells slots Q (F0 m pc ls (.int (nI B) :: .int (nI A) :: rest)) :=
  lv_irem hx hb hdg (nI_ne0 h0 hB) (by rw [pk_rem hA h0 hB, h]; exact kk)
theorem n_icmp_eq (hx : p.tables.exec = Jvm.exec) (hb : c.code = cc) {A B : Nat} (hA : A < 2 ^ 31) (hB : B < 2 ^ 31) {off : Int} {tgt : Nat} (hdg : decode cc pc = .ok (.if_icmp .eq off, 3)) (ht : (pc : Int) + off = (tgt : Int)) (kt : A = B → W p l e R s m args below meth c H locs cells slots Q (F0 m tgt ls rest)) (kf : A ≠ B → W p l e R s m args below meth c H locs cells slots Q (F0 m (pc + 3) ls rest)) : W p l e R s m args below meth c H locs cells slots Q (F0 m pc ls (.int (nI B) :: .int (nI A) :: rest)) :=
  lv_icmp_eq hx hb hdg ht (fun h => kt ((nI_eq hA hB).mp h)) (fun h => kf (fun q => h ((nI_eq hA hB).mpr q)))
theorem n_icmp_ne (hx : p.tables.exec = Jvm.exec) (hb : c.code = cc) {A B : Nat} (hA : A < 2 ^ 31) (hB : B < 2 ^ 31) {off : Int} {tgt : Nat} (hdg : decode cc pc = .ok (.if_icmp .ne off, 3)) (ht : (pc : Int) + off = (tgt : Int)) (kt : A ≠ B → W p l e R s m args below meth c H locs cells slots Q (F0 m tgt ls rest)) (kf : A = B → W p l e R s m args below meth c H locs cells slots Q (F0 m (pc + 3) ls rest)) : W p l e R s m args below meth c H locs cells slots Q (F0 m pc ls (.int (nI B) :: .int (nI A) :: rest)) :=
  lv_icmp_ne hx hb hdg ht (fun h => kt (fun q => h ((nI_eq hA hB).mpr q))) (fun h => kf ((nI_eq hA hB).mp h))
theorem n_icmp_lt (hx : p.tables.exec = Jvm.exec) (hb : c.code = cc) {A B : Nat} (hA : A < 2 ^ 31) (hB : B < 2 ^ 31) {off : Int} {tgt : Nat} (hdg : decode cc pc = .ok (.if_icmp .lt off, 3)) (ht : (pc : Int) + off = (tgt : Int)) (kt : A < B → W p l e R s m args below meth c H locs cells slots Q (F0 m tgt ls rest)) (kf : B ≤ A → W p l e R s m args below meth c H locs cells slots Q (F0 m (pc + 3) ls rest)) : W p l e R s m args below meth c H locs cells slots Q (F0 m pc ls (.int (nI B) :: .int (nI A) :: rest)) :=
  lv_icmp_lt hx hb hdg ht (fun h => kt ((nI_ltI hA hB).mp h)) (fun h => kf (Nat.not_lt.mp (fun q => h ((nI_ltI hA hB).mpr q))))
theorem n_icmp_ge (hx : p.tables.exec = Jvm.exec) (hb : c.code = cc) {A B : Nat} (hA : A < 2 ^ 31) (hB : B < 2 ^ 31) {off : Int} {tgt : Nat} (hdg : decode cc pc = .ok (.if_icmp .ge off, 3)) (ht : (pc : Int) + off = (tgt : Int)) (kt : B ≤ A → W p l e R s m args below meth c H locs cells slots Q (F0 m tgt ls rest)) (kf : A < B → W p l e R s m args below meth c H locs cells slots Q (F0 m (pc + 3) ls rest)) : W p l e R s m args below meth c H locs cells slots Q (F0 m pc ls (.int (nI B) :: .int (nI A) :: rest)) :=
  lv_icmp_ge hx hb hdg ht (fun h => kt ((nI_leI hB hA).mp h)) (fun h => kf (Nat.not_le.mp (fun q => h ((nI_leI hB hA).mpr q))))
theorem n_icmp_gt (hx : p.tables.exec = Jvm.exec) (hb : c.code = cc) {A B : Nat} (hA : A < 2 ^ 31) (hB : B < 2 ^ 31) {off : Int} {tgt : Nat} (hdg : decode cc pc = .ok (.if_icmp .gt off, 3)) (ht : (pc : Int) + off = (tgt : Int)) (kt : B < A → W p l e R s m args below meth c H locs cells slots Q (F0 m tgt ls rest)) (kf : A ≤ B → W p l e R s m args below meth c H locs cells slots Q (F0 m (pc + 3) ls rest)) : W p l e R s m args below meth c H locs cells slots Q (F0 m pc ls (.int (nI B) :: .int (nI A) :: rest)) :=
  lv_icmp_gt hx hb hdg ht (fun h => kt ((nI_ltI hB hA).mp h)) (fun h => kf (Nat.not_lt.mp (fun q => h ((nI_ltI hB hA).mpr q))))
theorem n_icmp_le (hx : p.tables.exec = Jvm.exec) (hb : c.code = cc) {A B : Nat} (hA : A < 2 ^ 31) (hB : B < 2 ^ 31) {off : Int} {tgt : Nat} (hdg : decode cc pc = .ok (.if_icmp .le off, 3)) (ht : (pc : Int) + off = (tgt : Int)) (kt : A ≤ B → W p l e R s m args below meth c H locs cells slots Q (F0 m tgt ls rest)) (kf : B < A → W p l e R s m args below meth c H locs cells slots Q (F0 m (pc + 3) ls rest)) : W p l e R s m args below meth c H locs cells slots Q (F0 m pc ls (.int (nI B) :: .int (nI A) :: rest)) :=
  lv_icmp_le hx hb hdg ht (fun h => kt ((nI_leI hA hB).mp h)) (fun h => kf (Nat.not_le.mp (fun q => h ((nI_leI hA hB).mpr q))))
end ZC

theorem k_J0_492 : zLkV RJ0 492 yJ0_isLatin1_aae02 cJ0_isLatin1_aae02 1 (some .boolean) 0 := ⟨q_402, q_403, q_404, q_8, q_405, by decide +kernel⟩
theorem k_J0_495 : zLkS RJ0 495 yJ1_charAt_3b067 cJ1_charAt_3b067 2 (some .char) 2 := ⟨q_406, q_407, q_9, q_408, by decide +kernel⟩
theorem k_J0_1059 : zLkS RJ0 1059 yJ3_checkIndex_8e157 cJ3_checkIndex_8e157 3 (some .int) 3 := ⟨q_414, q_415, q_10, q_416, by decide +kernel⟩
theorem k_J0_335 : zLkV RJ0 335 yJ0_coder_7d493 cJ0_coder_7d493 1 (some .byte) 0 := ⟨q_392, q_393, q_394, q_8, q_395, by decide +kernel⟩
theorem k_J1_9 : zLkS RJ1 9 yJ0_checkIndex_df160 cJ0_checkIndex_df160 2 none 2 := ⟨q_409, q_410, q_8, q_411, by decide +kernel⟩
theorem k_L_9 : zLkV RL 9 yX5_table cX5_table 5 (some .int) 3 := ⟨q_229, q_230, q_231, q_1, q_232, by decide +kernel⟩
theorem k_L_15 : zLkV RL 15 yX5_pin cX5_pin 3 (some .int) 2 := ⟨q_451, q_452, q_453, q_1, q_454, by decide +kernel⟩
theorem k_L_19 : zLkV RL 19 yX5_throwOut cX5_throwOut 2 (some .int) 1 := ⟨q_460, q_461, q_462, q_1, q_463, by decide +kernel⟩
theorem k_L_23 : zLkV RL 23 yX5_make cX5_make 6 (some .int) 5 := ⟨q_465, q_466, q_467, q_1, q_468, by decide +kernel⟩
theorem k_L_27 : zLkV RL 27 yX5_set cX5_set 4 (some .int) 2 := ⟨q_476, q_477, q_478, q_1, q_479, by decide +kernel⟩
theorem k_L_31 : zLkV RL 31 yX5_ask cX5_ask 3 (some .int) 2 := ⟨q_259, q_260, q_261, q_1, q_262, by decide +kernel⟩
theorem k_L_34 : zLkV RL 34 yX5_plan cX5_plan 4 (some .int) 2 := ⟨q_508, q_509, q_510, q_1, q_511, by decide +kernel⟩
theorem k_L_37 : zLkV RL 37 yX5_reason cX5_reason 3 (some .int) 2 := ⟨q_516, q_517, q_518, q_1, q_519, by decide +kernel⟩
theorem k_L_40 : zLkV RL 40 yX5_tableOf cX5_tableOf 4 (some .int) 2 := ⟨q_539, q_540, q_541, q_1, q_542, by decide +kernel⟩
theorem k_L_43 : zLkV RL 43 yX5_count cX5_count 2 (some .int) 1 := ⟨q_547, q_548, q_549, q_1, q_550, by decide +kernel⟩
theorem k_L_46 : zLkV RL 46 yX5_cost cX5_cost 4 (some .int) 3 := ⟨q_498, q_499, q_500, q_1, q_501, by decide +kernel⟩
theorem k_L_50 : zLkV RL 50 yX5_oldest cX5_oldest 1 (some .int) 0 := ⟨q_534, q_535, q_536, q_1, q_537, by decide +kernel⟩
theorem k_L_61 : zLkV RL 61 yX5_undo cX5_undo 1 (some .int) 0 := ⟨q_485, q_486, q_487, q_1, q_488, by decide +kernel⟩
theorem k_L_64 : zLkV RL 64 yX5_restore cX5_restore 1 (some .int) 0 := ⟨q_493, q_494, q_495, q_1, q_496, by decide +kernel⟩
theorem k_L_67 : zLkV RL 67 yX5_askAll cX5_askAll 5 (some .int) 0 := ⟨q_359, q_360, q_361, q_1, q_362, by decide +kernel⟩
theorem k_L_70 : zLkS RL 70 yL_hangs cL_hangs 14 (some .boolean) 2 := ⟨q_564, q_565, q_0, q_566, by decide +kernel⟩
theorem k_L_76 : zLkS RL 76 yL_cell cL_cell 2 (some .int) 2 := ⟨q_556, q_557, q_0, q_558, by decide +kernel⟩
theorem k_L_80 : zLkV RL 80 yX5_ifAsked cX5_ifAsked 9 (some .int) 3 := ⟨q_521, q_522, q_523, q_1, q_524, by decide +kernel⟩
theorem k_L_54 : zLkV RL 54 yX5_cheapest cX5_cheapest 3 (some .int) 2 := ⟨q_503, q_504, q_505, q_1, q_506, by decide +kernel⟩
theorem k_L_83 : zLkS RL 83 yL_acts cL_acts 4 (some .int) 2 := ⟨q_561, q_562, q_0, q_563, by decide +kernel⟩
theorem k_L_87 : zLkS RL 87 yL_ways cL_ways 8 (some .boolean) 3 := ⟨q_567, q_568, q_0, q_569, by decide +kernel⟩
theorem k_L_57 : zLkV RL 57 yX5_reach cX5_reach 5 (some .int) 2 := ⟨q_530, q_531, q_532, q_1, q_533, by decide +kernel⟩
theorem k_X0_22 : zLkV RX0 22 yX3_copyFrom cX3_copyFrom 3 none 1 := ⟨q_240, q_241, q_242, q_2, q_243, by decide +kernel⟩
theorem k_X2_53 : zLkV RX2 53 yX2_sign cX2_sign 1 (some .int) 0 := ⟨q_375, q_376, q_377, q_6, q_378, by decide +kernel⟩
theorem k_X2_74 : zLkV RX2 74 yJ0_length_8abf5 cJ0_length_8abf5 1 (some .int) 0 := ⟨q_388, q_389, q_390, q_8, q_391, by decide +kernel⟩
theorem k_X2_78 : zLkV RX2 78 yJ0_charAt_5068e cJ0_charAt_5068e 2 (some .char) 1 := ⟨q_398, q_399, q_400, q_8, q_401, by decide +kernel⟩
theorem k_X2_32 : zLkV RX2 32 yX2_readLine cX2_readLine 5 (some .boolean) 1 := ⟨q_367, q_368, q_369, q_6, q_370, by decide +kernel⟩
theorem k_X2_41 : zLkV RX2 41 yX2_pass cX2_pass 3 (some .boolean) 1 := ⟨q_384, q_385, q_386, q_6, q_387, by decide +kernel⟩
theorem k_X2_45 : zLkV RX2 45 yX2_readWord cX2_readWord 1 (some .int) 0 := ⟨q_371, q_372, q_373, q_6, q_374, by decide +kernel⟩
theorem k_X2_49 : zLkV RX2 49 yX2_readNumber cX2_readNumber 5 (some .int) 2 := ⟨q_440, q_441, q_442, q_6, q_443, by decide +kernel⟩
theorem k_X2_71 : zLkV RX2 71 yX2_digit cX2_digit 2 (some .int) 0 := ⟨q_445, q_446, q_447, q_6, q_448, by decide +kernel⟩
theorem k_X2_56 : zLkV RX2 56 yX2_readKeyOrKeys cX2_readKeyOrKeys 1 (some .int) 0 := ⟨q_379, q_380, q_381, q_6, q_382, by decide +kernel⟩
theorem k_X3_116 : zLkV RX3 116 yX3_whyNotUsed cX3_whyNotUsed 4 (some .int) 2 := ⟨q_276, q_277, q_278, q_2, q_279, by decide +kernel⟩
theorem k_X3_119 : zLkV RX3 119 yX3_answerByPlan cX3_answerByPlan 5 (some .int) 2 := ⟨q_295, q_296, q_297, q_2, q_298, by decide +kernel⟩
theorem k_X3_122 : zLkV RX3 122 yX3_answerByLooking cX3_answerByLooking 5 (some .int) 2 := ⟨q_319, q_320, q_321, q_2, q_322, by decide +kernel⟩
theorem k_X3_64 : zLkV RX3 64 yX3_tableUnder cX3_tableUnder 2 (some (.object "KeptPlans$Table")) 1 := ⟨q_284, q_285, q_286, q_2, q_287, by decide +kernel⟩
theorem k_X3_140 : zLkV RX3 140 yX3_cheapestWay cX3_cheapestWay 7 (some .int) 2 := ⟨q_323, q_324, q_325, q_2, q_326, by decide +kernel⟩
theorem k_X3_143 : zLkV RX3 143 yX3_makeRoomFor cX3_makeRoomFor 2 none 1 := ⟨q_327, q_328, q_329, q_2, q_330, by decide +kernel⟩
theorem k_X3_147 : zLkV RX3 147 yX3_couldKeep cX3_couldKeep 2 (some .boolean) 1 := ⟨q_347, q_348, q_349, q_2, q_350, by decide +kernel⟩
theorem k_X3_82 : zLkN yX5_quotient cX5_quotient 2 (some .int) 2 := ⟨q_311, q_1, q_312, by decide +kernel⟩
theorem k_X3_150 : zLkV RX3 150 yX3_place cX3_place 7 none 5 := ⟨q_355, q_356, q_357, q_2, q_358, by decide +kernel⟩
theorem k_X3_85 : zLkV RX3 85 yX3_priceBy cX3_priceBy 7 (some .int) 3 := ⟨q_299, q_300, q_301, q_2, q_302, by decide +kernel⟩
theorem k_X3_136 : zLkV RX3 136 yX3_isTooDear cX3_isTooDear 3 (some .boolean) 2 := ⟨q_315, q_316, q_317, q_2, q_318, by decide +kernel⟩
theorem k_X3_29 : zLkV RX3 29 yX4_copyFrom cX4_copyFrom 2 none 1 := ⟨q_244, q_245, q_246, q_3, q_247, by decide +kernel⟩
theorem k_X3_33 : zLkV RX3 33 yX1_copyFrom cX1_copyFrom 2 none 1 := ⟨q_248, q_249, q_250, q_4, q_251, by decide +kernel⟩
theorem k_X3_160 : zLkV RX3 160 yX3_pinnedPlans cX3_pinnedPlans 3 (some .int) 0 := ⟨q_351, q_352, q_353, q_2, q_354, by decide +kernel⟩
theorem k_X3_164 : zLkV RX3 164 yX3_keptPlans cX3_keptPlans 3 (some .int) 0 := ⟨q_335, q_336, q_337, q_2, q_338, by decide +kernel⟩
theorem k_X3_170 : zLkV RX3 170 yX3_oldestUnpinned cX3_oldestUnpinned 6 (some .int) 0 := ⟨q_343, q_344, q_345, q_2, q_346, by decide +kernel⟩
theorem k_X3_167 : zLkV RX3 167 yX3_lacksRoomFor cX3_lacksRoomFor 2 (some .boolean) 1 := ⟨q_331, q_332, q_333, q_2, q_334, by decide +kernel⟩
theorem k_X3_96 : zLkV RX3 96 yX3_rowsChangedTooMuch cX3_rowsChangedTooMuch 3 (some .boolean) 1 := ⟨q_280, q_281, q_282, q_2, q_283, by decide +kernel⟩
theorem k_X3_100 : zLkV RX3 100 yX3_isTooOld cX3_isTooOld 2 (some .boolean) 1 := ⟨q_291, q_292, q_293, q_2, q_294, by decide +kernel⟩
theorem k_X3_173 : zLkV RX3 173 yX3_crowdOutDownTo cX3_crowdOutDownTo 5 none 1 := ⟨q_339, q_340, q_341, q_2, q_342, by decide +kernel⟩
theorem k_X3_68 : zLkN yX5_bitsOf cX5_bitsOf 2 (some .int) 1 := ⟨q_304, q_1, q_305, by decide +kernel⟩
theorem k_X3_72 : zLkV RX3 72 yX3_rowsMet cX3_rowsMet 5 (some .int) 2 := ⟨q_306, q_307, q_308, q_2, q_309, by decide +kernel⟩
theorem k_X3_176 : zLkV RX3 176 yX3_isStale cX3_isStale 2 (some .boolean) 1 := ⟨q_555, q_513, q_514, q_2, q_515, by decide +kernel⟩
theorem k_X5_62 : zLkS RX5 62 yX5_isShape cX5_isShape 1 (some .boolean) 1 := ⟨q_263, q_264, q_1, q_265, by decide +kernel⟩
theorem k_X5_65 : zLkS RX5 65 yX5_isNumberOf cX5_isNumberOf 2 (some .boolean) 2 := ⟨q_266, q_267, q_1, q_268, by decide +kernel⟩
theorem k_X5_54 : zLkV RX5 54 yX0_record cX0_record 2 none 1 := ⟨q_236, q_237, q_238, q_5, q_239, by decide +kernel⟩
theorem k_X5_69 : zLkV RX5 69 yX3_answer cX3_answer 6 (some .int) 2 := ⟨q_272, q_273, q_274, q_2, q_275, by decide +kernel⟩
theorem k_X5_73 : zLkV RX5 73 yX2_read cX2_read 1 (some .int) 0 := ⟨q_363, q_364, q_365, q_6, q_366, by decide +kernel⟩
theorem k_X5_58 : zLkV RX5 58 yX3_resize cX3_resize 4 none 3 := ⟨q_255, q_256, q_257, q_2, q_258, by decide +kernel⟩
theorem k_X5_157 : zLkV RX5 157 yX3_cheapestWay cX3_cheapestWay 7 (some .int) 2 := ⟨q_507, q_324, q_325, q_2, q_326, by decide +kernel⟩
theorem k_X5_110 : zLkS RX5 110 yX5_isWay cX5_isWay 1 (some .boolean) 1 := ⟨q_469, q_470, q_1, q_471, by decide +kernel⟩
theorem k_X5_153 : zLkV RX5 153 yX3_priceBy cX3_priceBy 7 (some .int) 3 := ⟨q_502, q_300, q_301, q_2, q_302, by decide +kernel⟩
theorem k_X5_107 : zLkV RX5 107 yX3_keptPlans cX3_keptPlans 3 (some .int) 0 := ⟨q_464, q_336, q_337, q_2, q_338, by decide +kernel⟩
theorem k_X5_101 : zLkV RX5 101 yX3_pinnedPlans cX3_pinnedPlans 3 (some .int) 0 := ⟨q_459, q_352, q_353, q_2, q_354, by decide +kernel⟩
theorem k_X5_214 : zLkV RX5 214 yX3_stalePlans cX3_stalePlans 3 (some .int) 0 := ⟨q_551, q_552, q_553, q_2, q_554, by decide +kernel⟩
theorem k_X5_191 : zLkV RX5 191 yX3_whyNotUsed cX3_whyNotUsed 4 (some .int) 2 := ⟨q_520, q_277, q_278, q_2, q_279, by decide +kernel⟩
theorem k_X5_194 : zLkV RX5 194 yX3_isTooDear cX3_isTooDear 3 (some .boolean) 2 := ⟨q_525, q_316, q_317, q_2, q_318, by decide +kernel⟩
theorem k_X5_197 : zLkV RX5 197 yX3_firstCrowdedOutBy cX3_firstCrowdedOutBy 2 (some .int) 1 := ⟨q_526, q_527, q_528, q_2, q_529, by decide +kernel⟩
theorem k_X5_201 : zLkS RX5 201 yX5_leastNumberOf cX5_leastNumberOf 1 (some .int) 1 := ⟨q_269, q_270, q_1, q_271, by decide +kernel⟩
theorem k_X5_114 : zLkV RX5 114 yX3_couldKeep cX3_couldKeep 2 (some .boolean) 1 := ⟨q_473, q_348, q_349, q_2, q_350, by decide +kernel⟩
theorem k_X5_117 : zLkV RX5 117 yX3_makeRoomFor cX3_makeRoomFor 2 none 1 := ⟨q_474, q_328, q_329, q_2, q_330, by decide +kernel⟩
theorem k_X5_121 : zLkV RX5 121 yX3_place cX3_place 7 none 5 := ⟨q_475, q_356, q_357, q_2, q_358, by decide +kernel⟩
theorem k_X5_204 : zLkV RX5 204 yX3_oldestUnpinned cX3_oldestUnpinned 6 (some .int) 0 := ⟨q_538, q_344, q_345, q_2, q_346, by decide +kernel⟩
theorem k_X5_89 : zLkV RX5 89 yX5_hasPlan cX5_hasPlan 2 (some .boolean) 1 := ⟨q_455, q_457, qs_0, q_1, q_458, by decide +kernel⟩
theorem k_X5_181 : zLkV RX5 181 yX3_isStale cX3_isStale 2 (some .boolean) 1 := ⟨q_512, q_513, q_514, q_2, q_515, by decide +kernel⟩
theorem k_X5_150 : zLkV RX5 150 yX3_copyFrom cX3_copyFrom 3 none 1 := ⟨q_497, q_241, q_242, q_2, q_243, by decide +kernel⟩
theorem k_X5_134 : zLkV RX5 134 yX3_crowdOutDownTo cX3_crowdOutDownTo 5 none 1 := ⟨q_484, q_340, q_341, q_2, q_342, by decide +kernel⟩
theorem k_X5_37 : zLkS RX5 37 yX5_isTable cX5_isTable 1 (some .boolean) 1 := ⟨q_233, q_234, q_1, q_235, by decide +kernel⟩
theorem k_X5_207 : zLkV RX5 207 yX3_keptPlansOf cX3_keptPlansOf 4 (some .int) 1 := ⟨q_543, q_544, q_545, q_2, q_546, by decide +kernel⟩
theorem k_X5_147 : zLkV RX5 147 yX0_takeBack cX0_takeBack 2 none 1 := ⟨q_489, q_490, q_491, q_5, q_492, by decide +kernel⟩
end
section
/-! the same rows over memories of a form: zUp g 0 v (the state now), zM g B v u (the model: slot B, its scalars), zT g u w t n (the text) -/
def zM (g : Mem) (B : Nat) (v u : Nat → Int32) : Mem := zUp (zUp g (10 + B) v) 18 u
theorem zM_18 (g : Mem) (B : Nat) (v u : Nat → Int32) : zM g B v u 18 = u := zUp_s _ _ _
theorem zM_B (g : Mem) {B : Nat} (hB : B < 7) (v u : Nat → Int32) : zM g B v u (10 + B) = v := by
  unfold zM
  rw [zUp_n _ _ (by omega), zUp_s]
theorem zM_o (g : Mem) {B j : Nat} (v u : Nat → Int32) (h1 : j ≠ 18) (h2 : j ≠ 10 + B) : zM g B v u j = g j := by
  unfold zM
  rw [zUp_n _ _ h1, zUp_n _ _ h2]
theorem zM_p18 (g : Mem) (B : Nat) (v u w : Nat → Int32) : zUp (zM g B v u) 18 w = zM g B v w := zUp_u _ _ _ _
theorem zM_pB (g : Mem) {B : Nat} (hB : B < 7) (v u w : Nat → Int32) : zUp (zM g B v u) (10 + B) w = zM g B w u := by
  unfold zM
  rw [zUp_c _ _ _ (show 18 ≠ 10 + B by omega), zUp_u]
theorem zM_id (g : Mem) {B : Nat} (hB : B < 7) : zM g B (g (10 + B)) (g 18) = g := by
  unfold zM
  rw [zUp_id, zUp_id]
def zT (g : Mem) (u w t n : Nat → Int32) : Mem := zUp (zUp (zUp (zUp g 8 w) 9 t) 17 n) 6 u
theorem zT_6 (g : Mem) (u w t n : Nat → Int32) : zT g u w t n 6 = u := zUp_s _ _ _
theorem zT_7 (g : Mem) (u w t n : Nat → Int32) : zT g u w t n 7 = g 7 := by simp [zT, zUp]
theorem zT_8 (g : Mem) (u w t n : Nat → Int32) : zT g u w t n 8 = w := by simp [zT, zUp]
theorem zT_9 (g : Mem) (u w t n : Nat → Int32) : zT g u w t n 9 = t := by simp [zT, zUp]
theorem zT_17 (g : Mem) (u w t n : Nat → Int32) : zT g u w t n 17 = n := by simp [zT, zUp]
theorem zT_p6 (g : Mem) (u w t n x : Nat → Int32) : zUp (zT g u w t n) 6 x = zT g x w t n := zUp_u _ _ _ _
theorem zT_p8 (g : Mem) (u w t n x : Nat → Int32) : zUp (zT g u w t n) 8 x = zT g u x t n := by
  funext j
  by_cases h1 : j = 8 <;> by_cases h2 : j = 6 <;> by_cases h3 : j = 9 <;> by_cases h4 : j = 17 <;> simp_all [zT, zUp]
theorem zT_p9 (g : Mem) (u w t n x : Nat → Int32) : zUp (zT g u w t n) 9 x = zT g u w x n := by
  funext j
  by_cases h1 : j = 8 <;> by_cases h2 : j = 6 <;> by_cases h3 : j = 9 <;> by_cases h4 : j = 17 <;> simp_all [zT, zUp]
theorem zT_p17 (g : Mem) (u w t n x : Nat → Int32) : zUp (zT g u w t n) 17 x = zT g u w t x := by
  funext j
  by_cases h1 : j = 8 <;> by_cases h2 : j = 6 <;> by_cases h3 : j = 9 <;> by_cases h4 : j = 17 <;> simp_all [zT, zUp]
theorem zT_id (g : Mem) : zT g (g 6) (g 8) (g 9) (g 17) = g := by
  unfold zT
  rw [zUp_id, zUp_id, zUp_id, zUp_id]
theorem z_nb (P : Prop) [Decidable P] : narrow .boolean (.int (if P then 1 else 0)) = .int (if P then 1 else 0) := by
  by_cases h : P
  · rw [if_pos h]; rfl
  · rw [if_neg h]; rfl
theorem z_inc1 (i : Nat) : nI i + Int32.ofInt 1 = nI (i + 1) := nI_1 i
theorem z_incI (x : Int32) : x + Int32.ofInt 1 = x + 1 := rfl
theorem z_b01 (P : Prop) [Decidable P] : (if P then (1 : Int32) else 0) = 0 ∨ (if P then (1 : Int32) else 0) = 1 := by
  by_cases h : P
  · rw [if_pos h]; exact Or.inr rfl
  · rw [if_neg h]; exact Or.inl rfl
theorem z_nlt {x y : Int32} (h : y ≤ x) : ¬ x < y := fun q => by have h1 := Int32.le_iff_toInt_le.mp h; have h2 := Int32.lt_iff_toInt_lt.mp q; omega
theorem z_lt {x y : Int32} (h : ¬ y ≤ x) : x < y := Int32.lt_iff_toInt_lt.mpr (Int.not_le.mp (fun q => h (Int32.le_iff_toInt_le.mpr q)))
section ZN
variable {p : Program} {l : Launch} {e : Env} {R : Room} {s : State} {m : MethodId} {args : Array Value} {below : List Frame} {meth : Method} {c : Code} {H : Heap} {locs : List Loc} {cells slots : Nat} {Q : State → Prop}
variable {cc : ByteArray} {nL : Nat} {own : String} {pc : Nat} {ls : Array Slot} {rest st : List Value} {D : va_G} {k : Nat → ClassId} {a : Nat → Nat → Nat} {g : Mem} {v u w tt n : Nat → Int32}
theorem b_ifeq (hx : p.tables.exec = Jvm.exec) (hb : c.code = cc) {P : Prop} [Decidable P] {off : Int} {tgt : Nat} (hdg : decode cc pc = .ok (.ifCond .eq off, 3)) (ht : (pc : Int) + off = (tgt : Int)) (kt : ¬ P → W p l e R s m args below meth c H locs cells slots Q (F0 m tgt ls rest)) (kf : P → W p l e R s m args below meth c H locs cells slots Q (F0 m (pc + 3) ls rest)) : W p l e R s m args below meth c H locs cells slots Q (F0 m pc ls (.int (if P then 1 else 0) :: rest)) := by
  by_cases h : P
  · rw [if_pos h]
    exact lv_if_eq hx hb hdg ht (fun q => absurd q (by decide)) (fun _ => kf h)
  · rw [if_neg h]
    exact lv_if_eq hx hb hdg ht (fun _ => kt h) (fun q => absurd rfl q)
theorem b_ifne (hx : p.tables.exec = Jvm.exec) (hb : c.code = cc) {P : Prop} [Decidable P] {off : Int} {tgt : Nat} (hdg : decode cc pc = .ok (.ifCond .ne off, 3)) (ht : (pc : Int) + off = (tgt : Int)) (kt : P → W p l e R s m args below meth c H locs cells slots Q (F0 m tgt ls rest)) (kf : ¬ P → W p l e R s m args below meth c H locs cells slots Q (F0 m (pc + 3) ls rest)) : W p l e R s m args below meth c H locs cells slots Q (F0 m pc ls (.int (if P then 1 else 0) :: rest)) := by
  by_cases h : P
  · rw [if_pos h]
    exact lv_if_ne hx hb hdg ht (fun _ => kt h) (fun q => absurd q (by decide))
  · rw [if_neg h]
    exact lv_if_ne hx hb hdg ht (fun q => absurd rfl q) (fun _ => kf h)
theorem z_sl : ∀ n, n < 32 → ((nI n &&& 31).toBitVec.smod 32).toNat = n := by decide +kernel
theorem n_ishr (hx : p.tables.exec = Jvm.exec) (hb : c.code = cc) {A B : Nat} (hA : A < 2 ^ 31) (hB : B < 32) (hdg : decode cc pc = .ok (.ishr, 1)) (kk : W p l e R s m args below meth c H locs cells slots Q (F0 m (pc + 1) ls (.int (nI (A / 2 ^ B)) :: rest))) : W p l e R s m args below meth c H locs cells slots Q (F0 m pc ls (.int (nI B) :: .int (nI A) :: rest)) :=
  lv_ishr hx hb hdg (by rw [pk_shrN hA (nI B &&& 31) B (z_sl B hB)]; exact kk)
theorem n_if_eq (hx : p.tables.exec = Jvm.exec) (hb : c.code = cc) {A : Nat} (hA : A < 2 ^ 31) {off : Int} {tgt : Nat} (hdg : decode cc pc = .ok (.ifCond .eq off, 3)) (ht : (pc : Int) + off = (tgt : Int)) (kt : A = 0 → W p l e R s m args below meth c H locs cells slots Q (F0 m tgt ls rest)) (kf : A ≠ 0 → W p l e R s m args below meth c H locs cells slots Q (F0 m (pc + 3) ls rest)) : W p l e R s m args below meth c H locs cells slots Q (F0 m pc ls (.int (nI A) :: rest)) :=
  lv_if_eq hx hb hdg ht (fun h => kt ((nI_eq hA (by omega)).mp (h.trans nI_0.symm))) (fun h => kf (fun q => h (by rw [q]; exact nI_0)))
theorem n_if_ne (hx : p.tables.exec = Jvm.exec) (hb : c.code = cc) {A : Nat} (hA : A < 2 ^ 31) {off : Int} {tgt : Nat} (hdg : decode cc pc = .ok (.ifCond .ne off, 3)) (ht : (pc : Int) + off = (tgt : Int)) (kt : A ≠ 0 → W p l e R s m args below meth c H locs cells slots Q (F0 m tgt ls rest)) (kf : A = 0 → W p l e R s m args below meth c H locs cells slots Q (F0 m (pc + 3) ls rest)) : W p l e R s m args below meth c H locs cells slots Q (F0 m pc ls (.int (nI A) :: rest)) :=
  lv_if_ne hx hb hdg ht (fun h => kt (fun q => h (by rw [q]; exact nI_0))) (fun h => kf ((nI_eq hA (by omega)).mp (h.trans nI_0.symm)))
theorem n_if_gt (hx : p.tables.exec = Jvm.exec) (hb : c.code = cc) {A : Nat} (hA : A < 2 ^ 31) {off : Int} {tgt : Nat} (hdg : decode cc pc = .ok (.ifCond .gt off, 3)) (ht : (pc : Int) + off = (tgt : Int)) (kt : 0 < A → W p l e R s m args below meth c H locs cells slots Q (F0 m tgt ls rest)) (kf : A = 0 → W p l e R s m args below meth c H locs cells slots Q (F0 m (pc + 3) ls rest)) : W p l e R s m args below meth c H locs cells slots Q (F0 m pc ls (.int (nI A) :: rest)) :=
  lv_if_gt hx hb hdg ht (fun h => kt ((nI_ltI (by omega) hA).mp (by rw [nI_0]; exact h))) (fun h => kf (by rcases Nat.eq_zero_or_pos A with q | q; exact q; exact absurd (by rw [← nI_0]; exact (nI_ltI (by omega) hA).mpr q) h))
theorem n_if_le (hx : p.tables.exec = Jvm.exec) (hb : c.code = cc) {A : Nat} (hA : A < 2 ^ 31) {off : Int} {tgt : Nat} (hdg : decode cc pc = .ok (.ifCond .le off, 3)) (ht : (pc : Int) + off = (tgt : Int)) (kt : A = 0 → W p l e R s m args below meth c H locs cells slots Q (F0 m tgt ls rest)) (kf : 0 < A → W p l e R s m args below meth c H locs cells slots Q (F0 m (pc + 3) ls rest)) : W p l e R s m args below meth c H locs cells slots Q (F0 m pc ls (.int (nI A) :: rest)) :=
  lv_if_le hx hb hdg ht (fun h => kt (by rcases Nat.eq_zero_or_pos A with q | q; exact q; exact absurd h (nI_nle q hA))) (fun h => kf (by rcases Nat.eq_zero_or_pos A with q | q; exact absurd (by rw [q, nI_0]; decide) h; exact q))
theorem i_icmp_lt (hx : p.tables.exec = Jvm.exec) (hb : c.code = cc) {x y : Int32} {off : Int} {tgt : Nat} (hdg : decode cc pc = .ok (.if_icmp .lt off, 3)) (ht : (pc : Int) + off = (tgt : Int)) (kt : x < y → W p l e R s m args below meth c H locs cells slots Q (F0 m tgt ls rest)) (kf : ¬ x < y → W p l e R s m args below meth c H locs cells slots Q (F0 m (pc + 3) ls rest)) : W p l e R s m args below meth c H locs cells slots Q (F0 m pc ls (.int y :: .int x :: rest)) := lv_icmp_lt hx hb hdg ht kt kf
theorem i_if_lt (hx : p.tables.exec = Jvm.exec) (hb : c.code = cc) {x : Int32} {off : Int} {tgt : Nat} (hdg : decode cc pc = .ok (.ifCond .lt off, 3)) (ht : (pc : Int) + off = (tgt : Int)) (kt : x < 0 → W p l e R s m args below meth c H locs cells slots Q (F0 m tgt ls rest)) (kf : ¬ x < 0 → W p l e R s m args below meth c H locs cells slots Q (F0 m (pc + 3) ls rest)) : W p l e R s m args below meth c H locs cells slots Q (F0 m pc ls (.int x :: rest)) := lv_if_lt hx hb hdg ht kt kf
theorem i_icmp_ge (hx : p.tables.exec = Jvm.exec) (hb : c.code = cc) {x y : Int32} {off : Int} {tgt : Nat} (hdg : decode cc pc = .ok (.if_icmp .ge off, 3)) (ht : (pc : Int) + off = (tgt : Int)) (kt : ¬ x < y → W p l e R s m args below meth c H locs cells slots Q (F0 m tgt ls rest)) (kf : x < y → W p l e R s m args below meth c H locs cells slots Q (F0 m (pc + 3) ls rest)) : W p l e R s m args below meth c H locs cells slots Q (F0 m pc ls (.int y :: .int x :: rest)) := lv_icmp_ge hx hb hdg ht (fun h => kt (z_nlt h)) (fun h => kf (z_lt h))
theorem i_if_ge (hx : p.tables.exec = Jvm.exec) (hb : c.code = cc) {x : Int32} {off : Int} {tgt : Nat} (hdg : decode cc pc = .ok (.ifCond .ge off, 3)) (ht : (pc : Int) + off = (tgt : Int)) (kt : ¬ x < 0 → W p l e R s m args below meth c H locs cells slots Q (F0 m tgt ls rest)) (kf : x < 0 → W p l e R s m args below meth c H locs cells slots Q (F0 m (pc + 3) ls rest)) : W p l e R s m args below meth c H locs cells slots Q (F0 m pc ls (.int x :: rest)) := lv_if_ge hx hb hdg ht (fun h => kt (z_nlt h)) (fun h => kf (z_lt h))
theorem i_icmp_gt (hx : p.tables.exec = Jvm.exec) (hb : c.code = cc) {x y : Int32} {off : Int} {tgt : Nat} (hdg : decode cc pc = .ok (.if_icmp .gt off, 3)) (ht : (pc : Int) + off = (tgt : Int)) (kt : y < x → W p l e R s m args below meth c H locs cells slots Q (F0 m tgt ls rest)) (kf : ¬ y < x → W p l e R s m args below meth c H locs cells slots Q (F0 m (pc + 3) ls rest)) : W p l e R s m args below meth c H locs cells slots Q (F0 m pc ls (.int y :: .int x :: rest)) := lv_icmp_gt hx hb hdg ht kt kf
theorem i_if_gt (hx : p.tables.exec = Jvm.exec) (hb : c.code = cc) {x : Int32} {off : Int} {tgt : Nat} (hdg : decode cc pc = .ok (.ifCond .gt off, 3)) (ht : (pc : Int) + off = (tgt : Int)) (kt : 0 < x → W p l e R s m args below meth c H locs cells slots Q (F0 m tgt ls rest)) (kf : ¬ 0 < x → W p l e R s m args below meth c H locs cells slots Q (F0 m (pc + 3) ls rest)) : W p l e R s m args below meth c H locs cells slots Q (F0 m pc ls (.int x :: rest)) := lv_if_gt hx hb hdg ht kt kf
theorem i_icmp_le (hx : p.tables.exec = Jvm.exec) (hb : c.code = cc) {x y : Int32} {off : Int} {tgt : Nat} (hdg : decode cc pc = .ok (.if_icmp .le off, 3)) (ht : (pc : Int) + off = (tgt : Int)) (kt : ¬ y < x → W p l e R s m args below meth c H locs cells slots Q (F0 m tgt ls rest)) (kf : y < x → W p l e R s m args below meth c H locs cells slots Q (F0 m (pc + 3) ls rest)) : W p l e R s m args below meth c H locs cells slots Q (F0 m pc ls (.int y :: .int x :: rest)) := lv_icmp_le hx hb hdg ht (fun h => kt (z_nlt h)) (fun h => kf (z_lt h))
theorem i_if_le (hx : p.tables.exec = Jvm.exec) (hb : c.code = cc) {x : Int32} {off : Int} {tgt : Nat} (hdg : decode cc pc = .ok (.ifCond .le off, 3)) (ht : (pc : Int) + off = (tgt : Int)) (kt : ¬ 0 < x → W p l e R s m args below meth c H locs cells slots Q (F0 m tgt ls rest)) (kf : 0 < x → W p l e R s m args below meth c H locs cells slots Q (F0 m (pc + 3) ls rest)) : W p l e R s m args below meth c H locs cells slots Q (F0 m pc ls (.int x :: rest)) := lv_if_le hx hb hdg ht (fun h => kt (z_nlt h)) (fun h => kf (z_lt h))
theorem gn_X1_kept (X : zC p m c cc nL s args own D k a) (hH : zH D k a s (zUp g 0 v) H locs) {t : Nat} (ht : t < 12) {idx : Nat} (hl : .fieldLink own idx "KeptPlans$Plan" "kept" "Z" ∈ GW) (hdg : decode cc pc = .ok (.getfield idx, 3))
    (kk : W p l e R s m args below meth c H locs cells slots Q (F0 m (pc + 3) ls (.int (v (13 + 11 * t + 0)) :: rest))) : W p l e R s m args below meth c H locs cells slots Q (F0 m pc ls (.ref (a 0 (8 + t)) :: rest)) :=
  gf_X1_kept X hH (by omega) ht hl hdg (by rw [zUp_s]; exact kk)
theorem pn_X1_kept (X : zC p m c cc nL s args own D k a) (hH : zH D k a s (zUp g 0 v) H locs) {t : Nat} (ht : t < 12) {idx : Nat} {x : Int32} (hx : x = 0 ∨ x = 1) (hl : .fieldLink own idx "KeptPlans$Plan" "kept" "Z" ∈ GW) (hdg : decode cc pc = .ok (.putfield idx, 3))
    (kk : ∀ (H : Heap) (locs : List Loc), zH D k a s (zUp g 0 (upd v (13 + 11 * t + 0) x)) H locs → W p l e R s m args below meth c H locs cells slots Q (F0 m (pc + 3) ls (rest))) : W p l e R s m args below meth c H locs cells slots Q (F0 m pc ls (.int x :: .ref (a 0 (8 + t)) :: rest)) :=
  pf_X1_kept X hH (by omega) ht hx hl hdg (fun H1 locs1 h => kk H1 locs1 (by rw [zUp_s, zUp_u] at h; exact h))
theorem g2_X1_kept (X : zC p m c cc nL s args own D k a) {i j t : Nat} (hi : i < 6) (hj : j < 6) (hij : j ≠ i) (ht : t < 12) (hH : zH D k a s (zUp g i v) H locs) {idx : Nat} (hl : .fieldLink own idx "KeptPlans$Plan" "kept" "Z" ∈ GW) (hdg : decode cc pc = .ok (.getfield idx, 3))
    (kk : W p l e R s m args below meth c H locs cells slots Q (F0 m (pc + 3) ls (.int (g j (13 + 11 * t + 0)) :: rest))) : W p l e R s m args below meth c H locs cells slots Q (F0 m pc ls (.ref (a j (8 + t)) :: rest)) :=
  gf_X1_kept X hH hj ht hl hdg (by rw [zUp_n _ _ hij]; exact kk)
theorem p2_X1_kept (X : zC p m c cc nL s args own D k a) {i t : Nat} (hi : i < 6) (ht : t < 12) (hH : zH D k a s (zUp g i v) H locs) {idx : Nat} {x : Int32} (hx : x = 0 ∨ x = 1) (hl : .fieldLink own idx "KeptPlans$Plan" "kept" "Z" ∈ GW) (hdg : decode cc pc = .ok (.putfield idx, 3))
    (kk : ∀ (H : Heap) (locs : List Loc), zH D k a s (zUp g i (upd v (13 + 11 * t + 0) x)) H locs → W p l e R s m args below meth c H locs cells slots Q (F0 m (pc + 3) ls (rest))) : W p l e R s m args below meth c H locs cells slots Q (F0 m pc ls (.int x :: .ref (a i (8 + t)) :: rest)) :=
  pf_X1_kept X hH hi ht hx hl hdg (fun H1 locs1 h => kk H1 locs1 (by rw [zUp_s, zUp_u] at h; exact h))
theorem gn_X1_pinned (X : zC p m c cc nL s args own D k a) (hH : zH D k a s (zUp g 0 v) H locs) {t : Nat} (ht : t < 12) {idx : Nat} (hl : .fieldLink own idx "KeptPlans$Plan" "pinned" "Z" ∈ GW) (hdg : decode cc pc = .ok (.getfield idx, 3))
    (kk : W p l e R s m args below meth c H locs cells slots Q (F0 m (pc + 3) ls (.int (v (13 + 11 * t + 8)) :: rest))) : W p l e R s m args below meth c H locs cells slots Q (F0 m pc ls (.ref (a 0 (8 + t)) :: rest)) :=
  gf_X1_pinned X hH (by omega) ht hl hdg (by rw [zUp_s]; exact kk)
theorem pn_X1_pinned (X : zC p m c cc nL s args own D k a) (hH : zH D k a s (zUp g 0 v) H locs) {t : Nat} (ht : t < 12) {idx : Nat} {x : Int32} (hx : x = 0 ∨ x = 1) (hl : .fieldLink own idx "KeptPlans$Plan" "pinned" "Z" ∈ GW) (hdg : decode cc pc = .ok (.putfield idx, 3))
    (kk : ∀ (H : Heap) (locs : List Loc), zH D k a s (zUp g 0 (upd v (13 + 11 * t + 8) x)) H locs → W p l e R s m args below meth c H locs cells slots Q (F0 m (pc + 3) ls (rest))) : W p l e R s m args below meth c H locs cells slots Q (F0 m pc ls (.int x :: .ref (a 0 (8 + t)) :: rest)) :=
  pf_X1_pinned X hH (by omega) ht hx hl hdg (fun H1 locs1 h => kk H1 locs1 (by rw [zUp_s, zUp_u] at h; exact h))
theorem g2_X1_pinned (X : zC p m c cc nL s args own D k a) {i j t : Nat} (hi : i < 6) (hj : j < 6) (hij : j ≠ i) (ht : t < 12) (hH : zH D k a s (zUp g i v) H locs) {idx : Nat} (hl : .fieldLink own idx "KeptPlans$Plan" "pinned" "Z" ∈ GW) (hdg : decode cc pc = .ok (.getfield idx, 3))
    (kk : W p l e R s m args below meth c H locs cells slots Q (F0 m (pc + 3) ls (.int (g j (13 + 11 * t + 8)) :: rest))) : W p l e R s m args below meth c H locs cells slots Q (F0 m pc ls (.ref (a j (8 + t)) :: rest)) :=
  gf_X1_pinned X hH hj ht hl hdg (by rw [zUp_n _ _ hij]; exact kk)
theorem p2_X1_pinned (X : zC p m c cc nL s args own D k a) {i t : Nat} (hi : i < 6) (ht : t < 12) (hH : zH D k a s (zUp g i v) H locs) {idx : Nat} {x : Int32} (hx : x = 0 ∨ x = 1) (hl : .fieldLink own idx "KeptPlans$Plan" "pinned" "Z" ∈ GW) (hdg : decode cc pc = .ok (.putfield idx, 3))
    (kk : ∀ (H : Heap) (locs : List Loc), zH D k a s (zUp g i (upd v (13 + 11 * t + 8) x)) H locs → W p l e R s m args below meth c H locs cells slots Q (F0 m (pc + 3) ls (rest))) : W p l e R s m args below meth c H locs cells slots Q (F0 m pc ls (.int x :: .ref (a i (8 + t)) :: rest)) :=
  pf_X1_pinned X hH hi ht hx hl hdg (fun H1 locs1 h => kk H1 locs1 (by rw [zUp_s, zUp_u] at h; exact h))
theorem gn_X1_way (X : zC p m c cc nL s args own D k a) (hH : zH D k a s (zUp g 0 v) H locs) {t : Nat} (ht : t < 12) {idx : Nat} (hl : .fieldLink own idx "KeptPlans$Plan" "way" "I" ∈ GW) (hdg : decode cc pc = .ok (.getfield idx, 3))
    (kk : W p l e R s m args below meth c H locs cells slots Q (F0 m (pc + 3) ls (.int (v (13 + 11 * t + 1)) :: rest))) : W p l e R s m args below meth c H locs cells slots Q (F0 m pc ls (.ref (a 0 (8 + t)) :: rest)) :=
  gf_X1_way X hH (by omega) ht hl hdg (by rw [zUp_s]; exact kk)
theorem pn_X1_way (X : zC p m c cc nL s args own D k a) (hH : zH D k a s (zUp g 0 v) H locs) {t : Nat} (ht : t < 12) {idx : Nat} {x : Int32} (hl : .fieldLink own idx "KeptPlans$Plan" "way" "I" ∈ GW) (hdg : decode cc pc = .ok (.putfield idx, 3))
    (kk : ∀ (H : Heap) (locs : List Loc), zH D k a s (zUp g 0 (upd v (13 + 11 * t + 1) x)) H locs → W p l e R s m args below meth c H locs cells slots Q (F0 m (pc + 3) ls (rest))) : W p l e R s m args below meth c H locs cells slots Q (F0 m pc ls (.int x :: .ref (a 0 (8 + t)) :: rest)) :=
  pf_X1_way X hH (by omega) ht hl hdg (fun H1 locs1 h => kk H1 locs1 (by rw [zUp_s, zUp_u] at h; exact h))
theorem g2_X1_way (X : zC p m c cc nL s args own D k a) {i j t : Nat} (hi : i < 6) (hj : j < 6) (hij : j ≠ i) (ht : t < 12) (hH : zH D k a s (zUp g i v) H locs) {idx : Nat} (hl : .fieldLink own idx "KeptPlans$Plan" "way" "I" ∈ GW) (hdg : decode cc pc = .ok (.getfield idx, 3))
    (kk : W p l e R s m args below meth c H locs cells slots Q (F0 m (pc + 3) ls (.int (g j (13 + 11 * t + 1)) :: rest))) : W p l e R s m args below meth c H locs cells slots Q (F0 m pc ls (.ref (a j (8 + t)) :: rest)) :=
  gf_X1_way X hH hj ht hl hdg (by rw [zUp_n _ _ hij]; exact kk)
theorem p2_X1_way (X : zC p m c cc nL s args own D k a) {i t : Nat} (hi : i < 6) (ht : t < 12) (hH : zH D k a s (zUp g i v) H locs) {idx : Nat} {x : Int32} (hl : .fieldLink own idx "KeptPlans$Plan" "way" "I" ∈ GW) (hdg : decode cc pc = .ok (.putfield idx, 3))
    (kk : ∀ (H : Heap) (locs : List Loc), zH D k a s (zUp g i (upd v (13 + 11 * t + 1) x)) H locs → W p l e R s m args below meth c H locs cells slots Q (F0 m (pc + 3) ls (rest))) : W p l e R s m args below meth c H locs cells slots Q (F0 m pc ls (.int x :: .ref (a i (8 + t)) :: rest)) :=
  pf_X1_way X hH hi ht hl hdg (fun H1 locs1 h => kk H1 locs1 (by rw [zUp_s, zUp_u] at h; exact h))
theorem gn_X1_least (X : zC p m c cc nL s args own D k a) (hH : zH D k a s (zUp g 0 v) H locs) {t : Nat} (ht : t < 12) {idx : Nat} (hl : .fieldLink own idx "KeptPlans$Plan" "least" "I" ∈ GW) (hdg : decode cc pc = .ok (.getfield idx, 3))
    (kk : W p l e R s m args below meth c H locs cells slots Q (F0 m (pc + 3) ls (.int (v (13 + 11 * t + 2)) :: rest))) : W p l e R s m args below meth c H locs cells slots Q (F0 m pc ls (.ref (a 0 (8 + t)) :: rest)) :=
  gf_X1_least X hH (by omega) ht hl hdg (by rw [zUp_s]; exact kk)
theorem pn_X1_least (X : zC p m c cc nL s args own D k a) (hH : zH D k a s (zUp g 0 v) H locs) {t : Nat} (ht : t < 12) {idx : Nat} {x : Int32} (hl : .fieldLink own idx "KeptPlans$Plan" "least" "I" ∈ GW) (hdg : decode cc pc = .ok (.putfield idx, 3))
    (kk : ∀ (H : Heap) (locs : List Loc), zH D k a s (zUp g 0 (upd v (13 + 11 * t + 2) x)) H locs → W p l e R s m args below meth c H locs cells slots Q (F0 m (pc + 3) ls (rest))) : W p l e R s m args below meth c H locs cells slots Q (F0 m pc ls (.int x :: .ref (a 0 (8 + t)) :: rest)) :=
  pf_X1_least X hH (by omega) ht hl hdg (fun H1 locs1 h => kk H1 locs1 (by rw [zUp_s, zUp_u] at h; exact h))
theorem g2_X1_least (X : zC p m c cc nL s args own D k a) {i j t : Nat} (hi : i < 6) (hj : j < 6) (hij : j ≠ i) (ht : t < 12) (hH : zH D k a s (zUp g i v) H locs) {idx : Nat} (hl : .fieldLink own idx "KeptPlans$Plan" "least" "I" ∈ GW) (hdg : decode cc pc = .ok (.getfield idx, 3))
    (kk : W p l e R s m args below meth c H locs cells slots Q (F0 m (pc + 3) ls (.int (g j (13 + 11 * t + 2)) :: rest))) : W p l e R s m args below meth c H locs cells slots Q (F0 m pc ls (.ref (a j (8 + t)) :: rest)) :=
  gf_X1_least X hH hj ht hl hdg (by rw [zUp_n _ _ hij]; exact kk)
theorem p2_X1_least (X : zC p m c cc nL s args own D k a) {i t : Nat} (hi : i < 6) (ht : t < 12) (hH : zH D k a s (zUp g i v) H locs) {idx : Nat} {x : Int32} (hl : .fieldLink own idx "KeptPlans$Plan" "least" "I" ∈ GW) (hdg : decode cc pc = .ok (.putfield idx, 3))
    (kk : ∀ (H : Heap) (locs : List Loc), zH D k a s (zUp g i (upd v (13 + 11 * t + 2) x)) H locs → W p l e R s m args below meth c H locs cells slots Q (F0 m (pc + 3) ls (rest))) : W p l e R s m args below meth c H locs cells slots Q (F0 m pc ls (.int x :: .ref (a i (8 + t)) :: rest)) :=
  pf_X1_least X hH hi ht hl hdg (fun H1 locs1 h => kk H1 locs1 (by rw [zUp_s, zUp_u] at h; exact h))
theorem gn_X1_most (X : zC p m c cc nL s args own D k a) (hH : zH D k a s (zUp g 0 v) H locs) {t : Nat} (ht : t < 12) {idx : Nat} (hl : .fieldLink own idx "KeptPlans$Plan" "most" "I" ∈ GW) (hdg : decode cc pc = .ok (.getfield idx, 3))
    (kk : W p l e R s m args below meth c H locs cells slots Q (F0 m (pc + 3) ls (.int (v (13 + 11 * t + 3)) :: rest))) : W p l e R s m args below meth c H locs cells slots Q (F0 m pc ls (.ref (a 0 (8 + t)) :: rest)) :=
  gf_X1_most X hH (by omega) ht hl hdg (by rw [zUp_s]; exact kk)
theorem pn_X1_most (X : zC p m c cc nL s args own D k a) (hH : zH D k a s (zUp g 0 v) H locs) {t : Nat} (ht : t < 12) {idx : Nat} {x : Int32} (hl : .fieldLink own idx "KeptPlans$Plan" "most" "I" ∈ GW) (hdg : decode cc pc = .ok (.putfield idx, 3))
    (kk : ∀ (H : Heap) (locs : List Loc), zH D k a s (zUp g 0 (upd v (13 + 11 * t + 3) x)) H locs → W p l e R s m args below meth c H locs cells slots Q (F0 m (pc + 3) ls (rest))) : W p l e R s m args below meth c H locs cells slots Q (F0 m pc ls (.int x :: .ref (a 0 (8 + t)) :: rest)) :=
  pf_X1_most X hH (by omega) ht hl hdg (fun H1 locs1 h => kk H1 locs1 (by rw [zUp_s, zUp_u] at h; exact h))
theorem g2_X1_most (X : zC p m c cc nL s args own D k a) {i j t : Nat} (hi : i < 6) (hj : j < 6) (hij : j ≠ i) (ht : t < 12) (hH : zH D k a s (zUp g i v) H locs) {idx : Nat} (hl : .fieldLink own idx "KeptPlans$Plan" "most" "I" ∈ GW) (hdg : decode cc pc = .ok (.getfield idx, 3))
    (kk : W p l e R s m args below meth c H locs cells slots Q (F0 m (pc + 3) ls (.int (g j (13 + 11 * t + 3)) :: rest))) : W p l e R s m args below meth c H locs cells slots Q (F0 m pc ls (.ref (a j (8 + t)) :: rest)) :=
  gf_X1_most X hH hj ht hl hdg (by rw [zUp_n _ _ hij]; exact kk)
theorem p2_X1_most (X : zC p m c cc nL s args own D k a) {i t : Nat} (hi : i < 6) (ht : t < 12) (hH : zH D k a s (zUp g i v) H locs) {idx : Nat} {x : Int32} (hl : .fieldLink own idx "KeptPlans$Plan" "most" "I" ∈ GW) (hdg : decode cc pc = .ok (.putfield idx, 3))
    (kk : ∀ (H : Heap) (locs : List Loc), zH D k a s (zUp g i (upd v (13 + 11 * t + 3) x)) H locs → W p l e R s m args below meth c H locs cells slots Q (F0 m (pc + 3) ls (rest))) : W p l e R s m args below meth c H locs cells slots Q (F0 m pc ls (.int x :: .ref (a i (8 + t)) :: rest)) :=
  pf_X1_most X hH hi ht hl hdg (fun H1 locs1 h => kk H1 locs1 (by rw [zUp_s, zUp_u] at h; exact h))
theorem gn_X1_number (X : zC p m c cc nL s args own D k a) (hH : zH D k a s (zUp g 0 v) H locs) {t : Nat} (ht : t < 12) {idx : Nat} (hl : .fieldLink own idx "KeptPlans$Plan" "number" "I" ∈ GW) (hdg : decode cc pc = .ok (.getfield idx, 3))
    (kk : W p l e R s m args below meth c H locs cells slots Q (F0 m (pc + 3) ls (.int (v (13 + 11 * t + 4)) :: rest))) : W p l e R s m args below meth c H locs cells slots Q (F0 m pc ls (.ref (a 0 (8 + t)) :: rest)) :=
  gf_X1_number X hH (by omega) ht hl hdg (by rw [zUp_s]; exact kk)
theorem pn_X1_number (X : zC p m c cc nL s args own D k a) (hH : zH D k a s (zUp g 0 v) H locs) {t : Nat} (ht : t < 12) {idx : Nat} {x : Int32} (hl : .fieldLink own idx "KeptPlans$Plan" "number" "I" ∈ GW) (hdg : decode cc pc = .ok (.putfield idx, 3))
    (kk : ∀ (H : Heap) (locs : List Loc), zH D k a s (zUp g 0 (upd v (13 + 11 * t + 4) x)) H locs → W p l e R s m args below meth c H locs cells slots Q (F0 m (pc + 3) ls (rest))) : W p l e R s m args below meth c H locs cells slots Q (F0 m pc ls (.int x :: .ref (a 0 (8 + t)) :: rest)) :=
  pf_X1_number X hH (by omega) ht hl hdg (fun H1 locs1 h => kk H1 locs1 (by rw [zUp_s, zUp_u] at h; exact h))
theorem g2_X1_number (X : zC p m c cc nL s args own D k a) {i j t : Nat} (hi : i < 6) (hj : j < 6) (hij : j ≠ i) (ht : t < 12) (hH : zH D k a s (zUp g i v) H locs) {idx : Nat} (hl : .fieldLink own idx "KeptPlans$Plan" "number" "I" ∈ GW) (hdg : decode cc pc = .ok (.getfield idx, 3))
    (kk : W p l e R s m args below meth c H locs cells slots Q (F0 m (pc + 3) ls (.int (g j (13 + 11 * t + 4)) :: rest))) : W p l e R s m args below meth c H locs cells slots Q (F0 m pc ls (.ref (a j (8 + t)) :: rest)) :=
  gf_X1_number X hH hj ht hl hdg (by rw [zUp_n _ _ hij]; exact kk)
theorem p2_X1_number (X : zC p m c cc nL s args own D k a) {i t : Nat} (hi : i < 6) (ht : t < 12) (hH : zH D k a s (zUp g i v) H locs) {idx : Nat} {x : Int32} (hl : .fieldLink own idx "KeptPlans$Plan" "number" "I" ∈ GW) (hdg : decode cc pc = .ok (.putfield idx, 3))
    (kk : ∀ (H : Heap) (locs : List Loc), zH D k a s (zUp g i (upd v (13 + 11 * t + 4) x)) H locs → W p l e R s m args below meth c H locs cells slots Q (F0 m (pc + 3) ls (rest))) : W p l e R s m args below meth c H locs cells slots Q (F0 m pc ls (.int x :: .ref (a i (8 + t)) :: rest)) :=
  pf_X1_number X hH hi ht hl hdg (fun H1 locs1 h => kk H1 locs1 (by rw [zUp_s, zUp_u] at h; exact h))
theorem gn_X1_guess (X : zC p m c cc nL s args own D k a) (hH : zH D k a s (zUp g 0 v) H locs) {t : Nat} (ht : t < 12) {idx : Nat} (hl : .fieldLink own idx "KeptPlans$Plan" "guess" "I" ∈ GW) (hdg : decode cc pc = .ok (.getfield idx, 3))
    (kk : W p l e R s m args below meth c H locs cells slots Q (F0 m (pc + 3) ls (.int (v (13 + 11 * t + 5)) :: rest))) : W p l e R s m args below meth c H locs cells slots Q (F0 m pc ls (.ref (a 0 (8 + t)) :: rest)) :=
  gf_X1_guess X hH (by omega) ht hl hdg (by rw [zUp_s]; exact kk)
theorem pn_X1_guess (X : zC p m c cc nL s args own D k a) (hH : zH D k a s (zUp g 0 v) H locs) {t : Nat} (ht : t < 12) {idx : Nat} {x : Int32} (hl : .fieldLink own idx "KeptPlans$Plan" "guess" "I" ∈ GW) (hdg : decode cc pc = .ok (.putfield idx, 3))
    (kk : ∀ (H : Heap) (locs : List Loc), zH D k a s (zUp g 0 (upd v (13 + 11 * t + 5) x)) H locs → W p l e R s m args below meth c H locs cells slots Q (F0 m (pc + 3) ls (rest))) : W p l e R s m args below meth c H locs cells slots Q (F0 m pc ls (.int x :: .ref (a 0 (8 + t)) :: rest)) :=
  pf_X1_guess X hH (by omega) ht hl hdg (fun H1 locs1 h => kk H1 locs1 (by rw [zUp_s, zUp_u] at h; exact h))
theorem g2_X1_guess (X : zC p m c cc nL s args own D k a) {i j t : Nat} (hi : i < 6) (hj : j < 6) (hij : j ≠ i) (ht : t < 12) (hH : zH D k a s (zUp g i v) H locs) {idx : Nat} (hl : .fieldLink own idx "KeptPlans$Plan" "guess" "I" ∈ GW) (hdg : decode cc pc = .ok (.getfield idx, 3))
    (kk : W p l e R s m args below meth c H locs cells slots Q (F0 m (pc + 3) ls (.int (g j (13 + 11 * t + 5)) :: rest))) : W p l e R s m args below meth c H locs cells slots Q (F0 m pc ls (.ref (a j (8 + t)) :: rest)) :=
  gf_X1_guess X hH hj ht hl hdg (by rw [zUp_n _ _ hij]; exact kk)
theorem p2_X1_guess (X : zC p m c cc nL s args own D k a) {i t : Nat} (hi : i < 6) (ht : t < 12) (hH : zH D k a s (zUp g i v) H locs) {idx : Nat} {x : Int32} (hl : .fieldLink own idx "KeptPlans$Plan" "guess" "I" ∈ GW) (hdg : decode cc pc = .ok (.putfield idx, 3))
    (kk : ∀ (H : Heap) (locs : List Loc), zH D k a s (zUp g i (upd v (13 + 11 * t + 5) x)) H locs → W p l e R s m args below meth c H locs cells slots Q (F0 m (pc + 3) ls (rest))) : W p l e R s m args below meth c H locs cells slots Q (F0 m pc ls (.int x :: .ref (a i (8 + t)) :: rest)) :=
  pf_X1_guess X hH hi ht hl hdg (fun H1 locs1 h => kk H1 locs1 (by rw [zUp_s, zUp_u] at h; exact h))
theorem gn_X1_rows (X : zC p m c cc nL s args own D k a) (hH : zH D k a s (zUp g 0 v) H locs) {t : Nat} (ht : t < 12) {idx : Nat} (hl : .fieldLink own idx "KeptPlans$Plan" "rows" "I" ∈ GW) (hdg : decode cc pc = .ok (.getfield idx, 3))
    (kk : W p l e R s m args below meth c H locs cells slots Q (F0 m (pc + 3) ls (.int (v (13 + 11 * t + 10)) :: rest))) : W p l e R s m args below meth c H locs cells slots Q (F0 m pc ls (.ref (a 0 (8 + t)) :: rest)) :=
  gf_X1_rows X hH (by omega) ht hl hdg (by rw [zUp_s]; exact kk)
theorem pn_X1_rows (X : zC p m c cc nL s args own D k a) (hH : zH D k a s (zUp g 0 v) H locs) {t : Nat} (ht : t < 12) {idx : Nat} {x : Int32} (hl : .fieldLink own idx "KeptPlans$Plan" "rows" "I" ∈ GW) (hdg : decode cc pc = .ok (.putfield idx, 3))
    (kk : ∀ (H : Heap) (locs : List Loc), zH D k a s (zUp g 0 (upd v (13 + 11 * t + 10) x)) H locs → W p l e R s m args below meth c H locs cells slots Q (F0 m (pc + 3) ls (rest))) : W p l e R s m args below meth c H locs cells slots Q (F0 m pc ls (.int x :: .ref (a 0 (8 + t)) :: rest)) :=
  pf_X1_rows X hH (by omega) ht hl hdg (fun H1 locs1 h => kk H1 locs1 (by rw [zUp_s, zUp_u] at h; exact h))
theorem g2_X1_rows (X : zC p m c cc nL s args own D k a) {i j t : Nat} (hi : i < 6) (hj : j < 6) (hij : j ≠ i) (ht : t < 12) (hH : zH D k a s (zUp g i v) H locs) {idx : Nat} (hl : .fieldLink own idx "KeptPlans$Plan" "rows" "I" ∈ GW) (hdg : decode cc pc = .ok (.getfield idx, 3))
    (kk : W p l e R s m args below meth c H locs cells slots Q (F0 m (pc + 3) ls (.int (g j (13 + 11 * t + 10)) :: rest))) : W p l e R s m args below meth c H locs cells slots Q (F0 m pc ls (.ref (a j (8 + t)) :: rest)) :=
  gf_X1_rows X hH hj ht hl hdg (by rw [zUp_n _ _ hij]; exact kk)
theorem p2_X1_rows (X : zC p m c cc nL s args own D k a) {i t : Nat} (hi : i < 6) (ht : t < 12) (hH : zH D k a s (zUp g i v) H locs) {idx : Nat} {x : Int32} (hl : .fieldLink own idx "KeptPlans$Plan" "rows" "I" ∈ GW) (hdg : decode cc pc = .ok (.putfield idx, 3))
    (kk : ∀ (H : Heap) (locs : List Loc), zH D k a s (zUp g i (upd v (13 + 11 * t + 10) x)) H locs → W p l e R s m args below meth c H locs cells slots Q (F0 m (pc + 3) ls (rest))) : W p l e R s m args below meth c H locs cells slots Q (F0 m pc ls (.int x :: .ref (a i (8 + t)) :: rest)) :=
  pf_X1_rows X hH hi ht hl hdg (fun H1 locs1 h => kk H1 locs1 (by rw [zUp_s, zUp_u] at h; exact h))
theorem gn_X1_uses (X : zC p m c cc nL s args own D k a) (hH : zH D k a s (zUp g 0 v) H locs) {t : Nat} (ht : t < 12) {idx : Nat} (hl : .fieldLink own idx "KeptPlans$Plan" "uses" "I" ∈ GW) (hdg : decode cc pc = .ok (.getfield idx, 3))
    (kk : W p l e R s m args below meth c H locs cells slots Q (F0 m (pc + 3) ls (.int (v (13 + 11 * t + 9)) :: rest))) : W p l e R s m args below meth c H locs cells slots Q (F0 m pc ls (.ref (a 0 (8 + t)) :: rest)) :=
  gf_X1_uses X hH (by omega) ht hl hdg (by rw [zUp_s]; exact kk)
theorem pn_X1_uses (X : zC p m c cc nL s args own D k a) (hH : zH D k a s (zUp g 0 v) H locs) {t : Nat} (ht : t < 12) {idx : Nat} {x : Int32} (hl : .fieldLink own idx "KeptPlans$Plan" "uses" "I" ∈ GW) (hdg : decode cc pc = .ok (.putfield idx, 3))
    (kk : ∀ (H : Heap) (locs : List Loc), zH D k a s (zUp g 0 (upd v (13 + 11 * t + 9) x)) H locs → W p l e R s m args below meth c H locs cells slots Q (F0 m (pc + 3) ls (rest))) : W p l e R s m args below meth c H locs cells slots Q (F0 m pc ls (.int x :: .ref (a 0 (8 + t)) :: rest)) :=
  pf_X1_uses X hH (by omega) ht hl hdg (fun H1 locs1 h => kk H1 locs1 (by rw [zUp_s, zUp_u] at h; exact h))
theorem g2_X1_uses (X : zC p m c cc nL s args own D k a) {i j t : Nat} (hi : i < 6) (hj : j < 6) (hij : j ≠ i) (ht : t < 12) (hH : zH D k a s (zUp g i v) H locs) {idx : Nat} (hl : .fieldLink own idx "KeptPlans$Plan" "uses" "I" ∈ GW) (hdg : decode cc pc = .ok (.getfield idx, 3))
    (kk : W p l e R s m args below meth c H locs cells slots Q (F0 m (pc + 3) ls (.int (g j (13 + 11 * t + 9)) :: rest))) : W p l e R s m args below meth c H locs cells slots Q (F0 m pc ls (.ref (a j (8 + t)) :: rest)) :=
  gf_X1_uses X hH hj ht hl hdg (by rw [zUp_n _ _ hij]; exact kk)
theorem p2_X1_uses (X : zC p m c cc nL s args own D k a) {i t : Nat} (hi : i < 6) (ht : t < 12) (hH : zH D k a s (zUp g i v) H locs) {idx : Nat} {x : Int32} (hl : .fieldLink own idx "KeptPlans$Plan" "uses" "I" ∈ GW) (hdg : decode cc pc = .ok (.putfield idx, 3))
    (kk : ∀ (H : Heap) (locs : List Loc), zH D k a s (zUp g i (upd v (13 + 11 * t + 9) x)) H locs → W p l e R s m args below meth c H locs cells slots Q (F0 m (pc + 3) ls (rest))) : W p l e R s m args below meth c H locs cells slots Q (F0 m pc ls (.int x :: .ref (a i (8 + t)) :: rest)) :=
  pf_X1_uses X hH hi ht hl hdg (fun H1 locs1 h => kk H1 locs1 (by rw [zUp_s, zUp_u] at h; exact h))
theorem gn_X1_madeAt (X : zC p m c cc nL s args own D k a) (hH : zH D k a s (zUp g 0 v) H locs) {t : Nat} (ht : t < 12) {idx : Nat} (hl : .fieldLink own idx "KeptPlans$Plan" "madeAt" "I" ∈ GW) (hdg : decode cc pc = .ok (.getfield idx, 3))
    (kk : W p l e R s m args below meth c H locs cells slots Q (F0 m (pc + 3) ls (.int (v (13 + 11 * t + 6)) :: rest))) : W p l e R s m args below meth c H locs cells slots Q (F0 m pc ls (.ref (a 0 (8 + t)) :: rest)) :=
  gf_X1_madeAt X hH (by omega) ht hl hdg (by rw [zUp_s]; exact kk)
theorem pn_X1_madeAt (X : zC p m c cc nL s args own D k a) (hH : zH D k a s (zUp g 0 v) H locs) {t : Nat} (ht : t < 12) {idx : Nat} {x : Int32} (hl : .fieldLink own idx "KeptPlans$Plan" "madeAt" "I" ∈ GW) (hdg : decode cc pc = .ok (.putfield idx, 3))
    (kk : ∀ (H : Heap) (locs : List Loc), zH D k a s (zUp g 0 (upd v (13 + 11 * t + 6) x)) H locs → W p l e R s m args below meth c H locs cells slots Q (F0 m (pc + 3) ls (rest))) : W p l e R s m args below meth c H locs cells slots Q (F0 m pc ls (.int x :: .ref (a 0 (8 + t)) :: rest)) :=
  pf_X1_madeAt X hH (by omega) ht hl hdg (fun H1 locs1 h => kk H1 locs1 (by rw [zUp_s, zUp_u] at h; exact h))
theorem g2_X1_madeAt (X : zC p m c cc nL s args own D k a) {i j t : Nat} (hi : i < 6) (hj : j < 6) (hij : j ≠ i) (ht : t < 12) (hH : zH D k a s (zUp g i v) H locs) {idx : Nat} (hl : .fieldLink own idx "KeptPlans$Plan" "madeAt" "I" ∈ GW) (hdg : decode cc pc = .ok (.getfield idx, 3))
    (kk : W p l e R s m args below meth c H locs cells slots Q (F0 m (pc + 3) ls (.int (g j (13 + 11 * t + 6)) :: rest))) : W p l e R s m args below meth c H locs cells slots Q (F0 m pc ls (.ref (a j (8 + t)) :: rest)) :=
  gf_X1_madeAt X hH hj ht hl hdg (by rw [zUp_n _ _ hij]; exact kk)
theorem p2_X1_madeAt (X : zC p m c cc nL s args own D k a) {i t : Nat} (hi : i < 6) (ht : t < 12) (hH : zH D k a s (zUp g i v) H locs) {idx : Nat} {x : Int32} (hl : .fieldLink own idx "KeptPlans$Plan" "madeAt" "I" ∈ GW) (hdg : decode cc pc = .ok (.putfield idx, 3))
    (kk : ∀ (H : Heap) (locs : List Loc), zH D k a s (zUp g i (upd v (13 + 11 * t + 6) x)) H locs → W p l e R s m args below meth c H locs cells slots Q (F0 m (pc + 3) ls (rest))) : W p l e R s m args below meth c H locs cells slots Q (F0 m pc ls (.int x :: .ref (a i (8 + t)) :: rest)) :=
  pf_X1_madeAt X hH hi ht hl hdg (fun H1 locs1 h => kk H1 locs1 (by rw [zUp_s, zUp_u] at h; exact h))
theorem gn_X1_usedAt (X : zC p m c cc nL s args own D k a) (hH : zH D k a s (zUp g 0 v) H locs) {t : Nat} (ht : t < 12) {idx : Nat} (hl : .fieldLink own idx "KeptPlans$Plan" "usedAt" "I" ∈ GW) (hdg : decode cc pc = .ok (.getfield idx, 3))
    (kk : W p l e R s m args below meth c H locs cells slots Q (F0 m (pc + 3) ls (.int (v (13 + 11 * t + 7)) :: rest))) : W p l e R s m args below meth c H locs cells slots Q (F0 m pc ls (.ref (a 0 (8 + t)) :: rest)) :=
  gf_X1_usedAt X hH (by omega) ht hl hdg (by rw [zUp_s]; exact kk)
theorem pn_X1_usedAt (X : zC p m c cc nL s args own D k a) (hH : zH D k a s (zUp g 0 v) H locs) {t : Nat} (ht : t < 12) {idx : Nat} {x : Int32} (hl : .fieldLink own idx "KeptPlans$Plan" "usedAt" "I" ∈ GW) (hdg : decode cc pc = .ok (.putfield idx, 3))
    (kk : ∀ (H : Heap) (locs : List Loc), zH D k a s (zUp g 0 (upd v (13 + 11 * t + 7) x)) H locs → W p l e R s m args below meth c H locs cells slots Q (F0 m (pc + 3) ls (rest))) : W p l e R s m args below meth c H locs cells slots Q (F0 m pc ls (.int x :: .ref (a 0 (8 + t)) :: rest)) :=
  pf_X1_usedAt X hH (by omega) ht hl hdg (fun H1 locs1 h => kk H1 locs1 (by rw [zUp_s, zUp_u] at h; exact h))
theorem g2_X1_usedAt (X : zC p m c cc nL s args own D k a) {i j t : Nat} (hi : i < 6) (hj : j < 6) (hij : j ≠ i) (ht : t < 12) (hH : zH D k a s (zUp g i v) H locs) {idx : Nat} (hl : .fieldLink own idx "KeptPlans$Plan" "usedAt" "I" ∈ GW) (hdg : decode cc pc = .ok (.getfield idx, 3))
    (kk : W p l e R s m args below meth c H locs cells slots Q (F0 m (pc + 3) ls (.int (g j (13 + 11 * t + 7)) :: rest))) : W p l e R s m args below meth c H locs cells slots Q (F0 m pc ls (.ref (a j (8 + t)) :: rest)) :=
  gf_X1_usedAt X hH hj ht hl hdg (by rw [zUp_n _ _ hij]; exact kk)
theorem p2_X1_usedAt (X : zC p m c cc nL s args own D k a) {i t : Nat} (hi : i < 6) (ht : t < 12) (hH : zH D k a s (zUp g i v) H locs) {idx : Nat} {x : Int32} (hl : .fieldLink own idx "KeptPlans$Plan" "usedAt" "I" ∈ GW) (hdg : decode cc pc = .ok (.putfield idx, 3))
    (kk : ∀ (H : Heap) (locs : List Loc), zH D k a s (zUp g i (upd v (13 + 11 * t + 7) x)) H locs → W p l e R s m args below meth c H locs cells slots Q (F0 m (pc + 3) ls (rest))) : W p l e R s m args below meth c H locs cells slots Q (F0 m pc ls (.int x :: .ref (a i (8 + t)) :: rest)) :=
  pf_X1_usedAt X hH hi ht hl hdg (fun H1 locs1 h => kk H1 locs1 (by rw [zUp_s, zUp_u] at h; exact h))
theorem gn_X4_rows (X : zC p m c cc nL s args own D k a) (hH : zH D k a s (zUp g 0 v) H locs) {t : Nat} (ht : t < 4) {idx : Nat} (hl : .fieldLink own idx "KeptPlans$Table" "rows" "I" ∈ GW) (hdg : decode cc pc = .ok (.getfield idx, 3))
    (kk : W p l e R s m args below meth c H locs cells slots Q (F0 m (pc + 3) ls (.int (v t) :: rest))) : W p l e R s m args below meth c H locs cells slots Q (F0 m pc ls (.ref (a 0 (4 + t)) :: rest)) :=
  gf_X4_rows X hH (by omega) ht hl hdg (by rw [zUp_s]; exact kk)
theorem pn_X4_rows (X : zC p m c cc nL s args own D k a) (hH : zH D k a s (zUp g 0 v) H locs) {t : Nat} (ht : t < 4) {idx : Nat} {x : Int32} (hl : .fieldLink own idx "KeptPlans$Table" "rows" "I" ∈ GW) (hdg : decode cc pc = .ok (.putfield idx, 3))
    (kk : ∀ (H : Heap) (locs : List Loc), zH D k a s (zUp g 0 (upd v t x)) H locs → W p l e R s m args below meth c H locs cells slots Q (F0 m (pc + 3) ls (rest))) : W p l e R s m args below meth c H locs cells slots Q (F0 m pc ls (.int x :: .ref (a 0 (4 + t)) :: rest)) :=
  pf_X4_rows X hH (by omega) ht hl hdg (fun H1 locs1 h => kk H1 locs1 (by rw [zUp_s, zUp_u] at h; exact h))
theorem g2_X4_rows (X : zC p m c cc nL s args own D k a) {i j t : Nat} (hi : i < 6) (hj : j < 6) (hij : j ≠ i) (ht : t < 4) (hH : zH D k a s (zUp g i v) H locs) {idx : Nat} (hl : .fieldLink own idx "KeptPlans$Table" "rows" "I" ∈ GW) (hdg : decode cc pc = .ok (.getfield idx, 3))
    (kk : W p l e R s m args below meth c H locs cells slots Q (F0 m (pc + 3) ls (.int (g j t) :: rest))) : W p l e R s m args below meth c H locs cells slots Q (F0 m pc ls (.ref (a j (4 + t)) :: rest)) :=
  gf_X4_rows X hH hj ht hl hdg (by rw [zUp_n _ _ hij]; exact kk)
theorem p2_X4_rows (X : zC p m c cc nL s args own D k a) {i t : Nat} (hi : i < 6) (ht : t < 4) (hH : zH D k a s (zUp g i v) H locs) {idx : Nat} {x : Int32} (hl : .fieldLink own idx "KeptPlans$Table" "rows" "I" ∈ GW) (hdg : decode cc pc = .ok (.putfield idx, 3))
    (kk : ∀ (H : Heap) (locs : List Loc), zH D k a s (zUp g i (upd v t x)) H locs → W p l e R s m args below meth c H locs cells slots Q (F0 m (pc + 3) ls (rest))) : W p l e R s m args below meth c H locs cells slots Q (F0 m pc ls (.int x :: .ref (a i (4 + t)) :: rest)) :=
  pf_X4_rows X hH hi ht hl hdg (fun H1 locs1 h => kk H1 locs1 (by rw [zUp_s, zUp_u] at h; exact h))
theorem gn_X4_keys (X : zC p m c cc nL s args own D k a) (hH : zH D k a s (zUp g 0 v) H locs) {t : Nat} (ht : t < 4) {idx : Nat} (hl : .fieldLink own idx "KeptPlans$Table" "keys" "I" ∈ GW) (hdg : decode cc pc = .ok (.getfield idx, 3))
    (kk : W p l e R s m args below meth c H locs cells slots Q (F0 m (pc + 3) ls (.int (v (4 + t)) :: rest))) : W p l e R s m args below meth c H locs cells slots Q (F0 m pc ls (.ref (a 0 (4 + t)) :: rest)) :=
  gf_X4_keys X hH (by omega) ht hl hdg (by rw [zUp_s]; exact kk)
theorem pn_X4_keys (X : zC p m c cc nL s args own D k a) (hH : zH D k a s (zUp g 0 v) H locs) {t : Nat} (ht : t < 4) {idx : Nat} {x : Int32} (hl : .fieldLink own idx "KeptPlans$Table" "keys" "I" ∈ GW) (hdg : decode cc pc = .ok (.putfield idx, 3))
    (kk : ∀ (H : Heap) (locs : List Loc), zH D k a s (zUp g 0 (upd v (4 + t) x)) H locs → W p l e R s m args below meth c H locs cells slots Q (F0 m (pc + 3) ls (rest))) : W p l e R s m args below meth c H locs cells slots Q (F0 m pc ls (.int x :: .ref (a 0 (4 + t)) :: rest)) :=
  pf_X4_keys X hH (by omega) ht hl hdg (fun H1 locs1 h => kk H1 locs1 (by rw [zUp_s, zUp_u] at h; exact h))
theorem g2_X4_keys (X : zC p m c cc nL s args own D k a) {i j t : Nat} (hi : i < 6) (hj : j < 6) (hij : j ≠ i) (ht : t < 4) (hH : zH D k a s (zUp g i v) H locs) {idx : Nat} (hl : .fieldLink own idx "KeptPlans$Table" "keys" "I" ∈ GW) (hdg : decode cc pc = .ok (.getfield idx, 3))
    (kk : W p l e R s m args below meth c H locs cells slots Q (F0 m (pc + 3) ls (.int (g j (4 + t)) :: rest))) : W p l e R s m args below meth c H locs cells slots Q (F0 m pc ls (.ref (a j (4 + t)) :: rest)) :=
  gf_X4_keys X hH hj ht hl hdg (by rw [zUp_n _ _ hij]; exact kk)
theorem p2_X4_keys (X : zC p m c cc nL s args own D k a) {i t : Nat} (hi : i < 6) (ht : t < 4) (hH : zH D k a s (zUp g i v) H locs) {idx : Nat} {x : Int32} (hl : .fieldLink own idx "KeptPlans$Table" "keys" "I" ∈ GW) (hdg : decode cc pc = .ok (.putfield idx, 3))
    (kk : ∀ (H : Heap) (locs : List Loc), zH D k a s (zUp g i (upd v (4 + t) x)) H locs → W p l e R s m args below meth c H locs cells slots Q (F0 m (pc + 3) ls (rest))) : W p l e R s m args below meth c H locs cells slots Q (F0 m pc ls (.int x :: .ref (a i (4 + t)) :: rest)) :=
  pf_X4_keys X hH hi ht hl hdg (fun H1 locs1 h => kk H1 locs1 (by rw [zUp_s, zUp_u] at h; exact h))
theorem gn_X4_questions (X : zC p m c cc nL s args own D k a) (hH : zH D k a s (zUp g 0 v) H locs) {t : Nat} (ht : t < 4) {idx : Nat} (hl : .fieldLink own idx "KeptPlans$Table" "questions" "I" ∈ GW) (hdg : decode cc pc = .ok (.getfield idx, 3))
    (kk : W p l e R s m args below meth c H locs cells slots Q (F0 m (pc + 3) ls (.int (v (152 + t)) :: rest))) : W p l e R s m args below meth c H locs cells slots Q (F0 m pc ls (.ref (a 0 (4 + t)) :: rest)) :=
  gf_X4_questions X hH (by omega) ht hl hdg (by rw [zUp_s]; exact kk)
theorem pn_X4_questions (X : zC p m c cc nL s args own D k a) (hH : zH D k a s (zUp g 0 v) H locs) {t : Nat} (ht : t < 4) {idx : Nat} {x : Int32} (hl : .fieldLink own idx "KeptPlans$Table" "questions" "I" ∈ GW) (hdg : decode cc pc = .ok (.putfield idx, 3))
    (kk : ∀ (H : Heap) (locs : List Loc), zH D k a s (zUp g 0 (upd v (152 + t) x)) H locs → W p l e R s m args below meth c H locs cells slots Q (F0 m (pc + 3) ls (rest))) : W p l e R s m args below meth c H locs cells slots Q (F0 m pc ls (.int x :: .ref (a 0 (4 + t)) :: rest)) :=
  pf_X4_questions X hH (by omega) ht hl hdg (fun H1 locs1 h => kk H1 locs1 (by rw [zUp_s, zUp_u] at h; exact h))
theorem g2_X4_questions (X : zC p m c cc nL s args own D k a) {i j t : Nat} (hi : i < 6) (hj : j < 6) (hij : j ≠ i) (ht : t < 4) (hH : zH D k a s (zUp g i v) H locs) {idx : Nat} (hl : .fieldLink own idx "KeptPlans$Table" "questions" "I" ∈ GW) (hdg : decode cc pc = .ok (.getfield idx, 3))
    (kk : W p l e R s m args below meth c H locs cells slots Q (F0 m (pc + 3) ls (.int (g j (152 + t)) :: rest))) : W p l e R s m args below meth c H locs cells slots Q (F0 m pc ls (.ref (a j (4 + t)) :: rest)) :=
  gf_X4_questions X hH hj ht hl hdg (by rw [zUp_n _ _ hij]; exact kk)
theorem p2_X4_questions (X : zC p m c cc nL s args own D k a) {i t : Nat} (hi : i < 6) (ht : t < 4) (hH : zH D k a s (zUp g i v) H locs) {idx : Nat} {x : Int32} (hl : .fieldLink own idx "KeptPlans$Table" "questions" "I" ∈ GW) (hdg : decode cc pc = .ok (.putfield idx, 3))
    (kk : ∀ (H : Heap) (locs : List Loc), zH D k a s (zUp g i (upd v (152 + t) x)) H locs → W p l e R s m args below meth c H locs cells slots Q (F0 m (pc + 3) ls (rest))) : W p l e R s m args below meth c H locs cells slots Q (F0 m pc ls (.int x :: .ref (a i (4 + t)) :: rest)) :=
  pf_X4_questions X hH hi ht hl hdg (fun H1 locs1 h => kk H1 locs1 (by rw [zUp_s, zUp_u] at h; exact h))
theorem gn_X4_spent (X : zC p m c cc nL s args own D k a) (hH : zH D k a s (zUp g 0 v) H locs) {t : Nat} (ht : t < 4) {idx : Nat} (hl : .fieldLink own idx "KeptPlans$Table" "spent" "I" ∈ GW) (hdg : decode cc pc = .ok (.getfield idx, 3))
    (kk : W p l e R s m args below meth c H locs cells slots Q (F0 m (pc + 3) ls (.int (v (156 + t)) :: rest))) : W p l e R s m args below meth c H locs cells slots Q (F0 m pc ls (.ref (a 0 (4 + t)) :: rest)) :=
  gf_X4_spent X hH (by omega) ht hl hdg (by rw [zUp_s]; exact kk)
theorem pn_X4_spent (X : zC p m c cc nL s args own D k a) (hH : zH D k a s (zUp g 0 v) H locs) {t : Nat} (ht : t < 4) {idx : Nat} {x : Int32} (hl : .fieldLink own idx "KeptPlans$Table" "spent" "I" ∈ GW) (hdg : decode cc pc = .ok (.putfield idx, 3))
    (kk : ∀ (H : Heap) (locs : List Loc), zH D k a s (zUp g 0 (upd v (156 + t) x)) H locs → W p l e R s m args below meth c H locs cells slots Q (F0 m (pc + 3) ls (rest))) : W p l e R s m args below meth c H locs cells slots Q (F0 m pc ls (.int x :: .ref (a 0 (4 + t)) :: rest)) :=
  pf_X4_spent X hH (by omega) ht hl hdg (fun H1 locs1 h => kk H1 locs1 (by rw [zUp_s, zUp_u] at h; exact h))
theorem g2_X4_spent (X : zC p m c cc nL s args own D k a) {i j t : Nat} (hi : i < 6) (hj : j < 6) (hij : j ≠ i) (ht : t < 4) (hH : zH D k a s (zUp g i v) H locs) {idx : Nat} (hl : .fieldLink own idx "KeptPlans$Table" "spent" "I" ∈ GW) (hdg : decode cc pc = .ok (.getfield idx, 3))
    (kk : W p l e R s m args below meth c H locs cells slots Q (F0 m (pc + 3) ls (.int (g j (156 + t)) :: rest))) : W p l e R s m args below meth c H locs cells slots Q (F0 m pc ls (.ref (a j (4 + t)) :: rest)) :=
  gf_X4_spent X hH hj ht hl hdg (by rw [zUp_n _ _ hij]; exact kk)
theorem p2_X4_spent (X : zC p m c cc nL s args own D k a) {i t : Nat} (hi : i < 6) (ht : t < 4) (hH : zH D k a s (zUp g i v) H locs) {idx : Nat} {x : Int32} (hl : .fieldLink own idx "KeptPlans$Table" "spent" "I" ∈ GW) (hdg : decode cc pc = .ok (.putfield idx, 3))
    (kk : ∀ (H : Heap) (locs : List Loc), zH D k a s (zUp g i (upd v (156 + t) x)) H locs → W p l e R s m args below meth c H locs cells slots Q (F0 m (pc + 3) ls (rest))) : W p l e R s m args below meth c H locs cells slots Q (F0 m pc ls (.int x :: .ref (a i (4 + t)) :: rest)) :=
  pf_X4_spent X hH hi ht hl hdg (fun H1 locs1 h => kk H1 locs1 (by rw [zUp_s, zUp_u] at h; exact h))
theorem gn_X3_questions (X : zC p m c cc nL s args own D k a) (hH : zH D k a s (zUp g 0 v) H locs)  {idx : Nat} (hl : .fieldLink own idx "KeptPlans$State" "questions" "I" ∈ GW) (hdg : decode cc pc = .ok (.getfield idx, 3))
    (kk : W p l e R s m args below meth c H locs cells slots Q (F0 m (pc + 3) ls (.int (v 145) :: rest))) : W p l e R s m args below meth c H locs cells slots Q (F0 m pc ls (.ref (a 0 0) :: rest)) :=
  gf_X3_questions X hH (by omega) hl hdg (by rw [zUp_s]; exact kk)
theorem pn_X3_questions (X : zC p m c cc nL s args own D k a) (hH : zH D k a s (zUp g 0 v) H locs)  {idx : Nat} {x : Int32} (hl : .fieldLink own idx "KeptPlans$State" "questions" "I" ∈ GW) (hdg : decode cc pc = .ok (.putfield idx, 3))
    (kk : ∀ (H : Heap) (locs : List Loc), zH D k a s (zUp g 0 (upd v 145 x)) H locs → W p l e R s m args below meth c H locs cells slots Q (F0 m (pc + 3) ls (rest))) : W p l e R s m args below meth c H locs cells slots Q (F0 m pc ls (.int x :: .ref (a 0 0) :: rest)) :=
  pf_X3_questions X hH (by omega) hl hdg (fun H1 locs1 h => kk H1 locs1 (by rw [zUp_s, zUp_u] at h; exact h))
theorem g2_X3_questions (X : zC p m c cc nL s args own D k a) {i j : Nat} (hi : i < 6) (hj : j < 6) (hij : j ≠ i) (hH : zH D k a s (zUp g i v) H locs) {idx : Nat} (hl : .fieldLink own idx "KeptPlans$State" "questions" "I" ∈ GW) (hdg : decode cc pc = .ok (.getfield idx, 3))
    (kk : W p l e R s m args below meth c H locs cells slots Q (F0 m (pc + 3) ls (.int (g j 145) :: rest))) : W p l e R s m args below meth c H locs cells slots Q (F0 m pc ls (.ref (a j 0) :: rest)) :=
  gf_X3_questions X hH hj hl hdg (by rw [zUp_n _ _ hij]; exact kk)
theorem p2_X3_questions (X : zC p m c cc nL s args own D k a) {i : Nat} (hi : i < 6) (hH : zH D k a s (zUp g i v) H locs) {idx : Nat} {x : Int32} (hl : .fieldLink own idx "KeptPlans$State" "questions" "I" ∈ GW) (hdg : decode cc pc = .ok (.putfield idx, 3))
    (kk : ∀ (H : Heap) (locs : List Loc), zH D k a s (zUp g i (upd v 145 x)) H locs → W p l e R s m args below meth c H locs cells slots Q (F0 m (pc + 3) ls (rest))) : W p l e R s m args below meth c H locs cells slots Q (F0 m pc ls (.int x :: .ref (a i 0) :: rest)) :=
  pf_X3_questions X hH hi hl hdg (fun H1 locs1 h => kk H1 locs1 (by rw [zUp_s, zUp_u] at h; exact h))
theorem gn_X3_hits (X : zC p m c cc nL s args own D k a) (hH : zH D k a s (zUp g 0 v) H locs)  {idx : Nat} (hl : .fieldLink own idx "KeptPlans$State" "hits" "I" ∈ GW) (hdg : decode cc pc = .ok (.getfield idx, 3))
    (kk : W p l e R s m args below meth c H locs cells slots Q (F0 m (pc + 3) ls (.int (v 146) :: rest))) : W p l e R s m args below meth c H locs cells slots Q (F0 m pc ls (.ref (a 0 0) :: rest)) :=
  gf_X3_hits X hH (by omega) hl hdg (by rw [zUp_s]; exact kk)
theorem pn_X3_hits (X : zC p m c cc nL s args own D k a) (hH : zH D k a s (zUp g 0 v) H locs)  {idx : Nat} {x : Int32} (hl : .fieldLink own idx "KeptPlans$State" "hits" "I" ∈ GW) (hdg : decode cc pc = .ok (.putfield idx, 3))
    (kk : ∀ (H : Heap) (locs : List Loc), zH D k a s (zUp g 0 (upd v 146 x)) H locs → W p l e R s m args below meth c H locs cells slots Q (F0 m (pc + 3) ls (rest))) : W p l e R s m args below meth c H locs cells slots Q (F0 m pc ls (.int x :: .ref (a 0 0) :: rest)) :=
  pf_X3_hits X hH (by omega) hl hdg (fun H1 locs1 h => kk H1 locs1 (by rw [zUp_s, zUp_u] at h; exact h))
theorem g2_X3_hits (X : zC p m c cc nL s args own D k a) {i j : Nat} (hi : i < 6) (hj : j < 6) (hij : j ≠ i) (hH : zH D k a s (zUp g i v) H locs) {idx : Nat} (hl : .fieldLink own idx "KeptPlans$State" "hits" "I" ∈ GW) (hdg : decode cc pc = .ok (.getfield idx, 3))
    (kk : W p l e R s m args below meth c H locs cells slots Q (F0 m (pc + 3) ls (.int (g j 146) :: rest))) : W p l e R s m args below meth c H locs cells slots Q (F0 m pc ls (.ref (a j 0) :: rest)) :=
  gf_X3_hits X hH hj hl hdg (by rw [zUp_n _ _ hij]; exact kk)
theorem p2_X3_hits (X : zC p m c cc nL s args own D k a) {i : Nat} (hi : i < 6) (hH : zH D k a s (zUp g i v) H locs) {idx : Nat} {x : Int32} (hl : .fieldLink own idx "KeptPlans$State" "hits" "I" ∈ GW) (hdg : decode cc pc = .ok (.putfield idx, 3))
    (kk : ∀ (H : Heap) (locs : List Loc), zH D k a s (zUp g i (upd v 146 x)) H locs → W p l e R s m args below meth c H locs cells slots Q (F0 m (pc + 3) ls (rest))) : W p l e R s m args below meth c H locs cells slots Q (F0 m pc ls (.int x :: .ref (a i 0) :: rest)) :=
  pf_X3_hits X hH hi hl hdg (fun H1 locs1 h => kk H1 locs1 (by rw [zUp_s, zUp_u] at h; exact h))
theorem gn_X3_misses (X : zC p m c cc nL s args own D k a) (hH : zH D k a s (zUp g 0 v) H locs)  {idx : Nat} (hl : .fieldLink own idx "KeptPlans$State" "misses" "I" ∈ GW) (hdg : decode cc pc = .ok (.getfield idx, 3))
    (kk : W p l e R s m args below meth c H locs cells slots Q (F0 m (pc + 3) ls (.int (v 147) :: rest))) : W p l e R s m args below meth c H locs cells slots Q (F0 m pc ls (.ref (a 0 0) :: rest)) :=
  gf_X3_misses X hH (by omega) hl hdg (by rw [zUp_s]; exact kk)
theorem pn_X3_misses (X : zC p m c cc nL s args own D k a) (hH : zH D k a s (zUp g 0 v) H locs)  {idx : Nat} {x : Int32} (hl : .fieldLink own idx "KeptPlans$State" "misses" "I" ∈ GW) (hdg : decode cc pc = .ok (.putfield idx, 3))
    (kk : ∀ (H : Heap) (locs : List Loc), zH D k a s (zUp g 0 (upd v 147 x)) H locs → W p l e R s m args below meth c H locs cells slots Q (F0 m (pc + 3) ls (rest))) : W p l e R s m args below meth c H locs cells slots Q (F0 m pc ls (.int x :: .ref (a 0 0) :: rest)) :=
  pf_X3_misses X hH (by omega) hl hdg (fun H1 locs1 h => kk H1 locs1 (by rw [zUp_s, zUp_u] at h; exact h))
theorem g2_X3_misses (X : zC p m c cc nL s args own D k a) {i j : Nat} (hi : i < 6) (hj : j < 6) (hij : j ≠ i) (hH : zH D k a s (zUp g i v) H locs) {idx : Nat} (hl : .fieldLink own idx "KeptPlans$State" "misses" "I" ∈ GW) (hdg : decode cc pc = .ok (.getfield idx, 3))
    (kk : W p l e R s m args below meth c H locs cells slots Q (F0 m (pc + 3) ls (.int (g j 147) :: rest))) : W p l e R s m args below meth c H locs cells slots Q (F0 m pc ls (.ref (a j 0) :: rest)) :=
  gf_X3_misses X hH hj hl hdg (by rw [zUp_n _ _ hij]; exact kk)
theorem p2_X3_misses (X : zC p m c cc nL s args own D k a) {i : Nat} (hi : i < 6) (hH : zH D k a s (zUp g i v) H locs) {idx : Nat} {x : Int32} (hl : .fieldLink own idx "KeptPlans$State" "misses" "I" ∈ GW) (hdg : decode cc pc = .ok (.putfield idx, 3))
    (kk : ∀ (H : Heap) (locs : List Loc), zH D k a s (zUp g i (upd v 147 x)) H locs → W p l e R s m args below meth c H locs cells slots Q (F0 m (pc + 3) ls (rest))) : W p l e R s m args below meth c H locs cells slots Q (F0 m pc ls (.int x :: .ref (a i 0) :: rest)) :=
  pf_X3_misses X hH hi hl hdg (fun H1 locs1 h => kk H1 locs1 (by rw [zUp_s, zUp_u] at h; exact h))
theorem gn_X3_spent (X : zC p m c cc nL s args own D k a) (hH : zH D k a s (zUp g 0 v) H locs)  {idx : Nat} (hl : .fieldLink own idx "KeptPlans$State" "spent" "I" ∈ GW) (hdg : decode cc pc = .ok (.getfield idx, 3))
    (kk : W p l e R s m args below meth c H locs cells slots Q (F0 m (pc + 3) ls (.int (v 148) :: rest))) : W p l e R s m args below meth c H locs cells slots Q (F0 m pc ls (.ref (a 0 0) :: rest)) :=
  gf_X3_spent X hH (by omega) hl hdg (by rw [zUp_s]; exact kk)
theorem pn_X3_spent (X : zC p m c cc nL s args own D k a) (hH : zH D k a s (zUp g 0 v) H locs)  {idx : Nat} {x : Int32} (hl : .fieldLink own idx "KeptPlans$State" "spent" "I" ∈ GW) (hdg : decode cc pc = .ok (.putfield idx, 3))
    (kk : ∀ (H : Heap) (locs : List Loc), zH D k a s (zUp g 0 (upd v 148 x)) H locs → W p l e R s m args below meth c H locs cells slots Q (F0 m (pc + 3) ls (rest))) : W p l e R s m args below meth c H locs cells slots Q (F0 m pc ls (.int x :: .ref (a 0 0) :: rest)) :=
  pf_X3_spent X hH (by omega) hl hdg (fun H1 locs1 h => kk H1 locs1 (by rw [zUp_s, zUp_u] at h; exact h))
theorem g2_X3_spent (X : zC p m c cc nL s args own D k a) {i j : Nat} (hi : i < 6) (hj : j < 6) (hij : j ≠ i) (hH : zH D k a s (zUp g i v) H locs) {idx : Nat} (hl : .fieldLink own idx "KeptPlans$State" "spent" "I" ∈ GW) (hdg : decode cc pc = .ok (.getfield idx, 3))
    (kk : W p l e R s m args below meth c H locs cells slots Q (F0 m (pc + 3) ls (.int (g j 148) :: rest))) : W p l e R s m args below meth c H locs cells slots Q (F0 m pc ls (.ref (a j 0) :: rest)) :=
  gf_X3_spent X hH hj hl hdg (by rw [zUp_n _ _ hij]; exact kk)
theorem p2_X3_spent (X : zC p m c cc nL s args own D k a) {i : Nat} (hi : i < 6) (hH : zH D k a s (zUp g i v) H locs) {idx : Nat} {x : Int32} (hl : .fieldLink own idx "KeptPlans$State" "spent" "I" ∈ GW) (hdg : decode cc pc = .ok (.putfield idx, 3))
    (kk : ∀ (H : Heap) (locs : List Loc), zH D k a s (zUp g i (upd v 148 x)) H locs → W p l e R s m args below meth c H locs cells slots Q (F0 m (pc + 3) ls (rest))) : W p l e R s m args below meth c H locs cells slots Q (F0 m pc ls (.int x :: .ref (a i 0) :: rest)) :=
  pf_X3_spent X hH hi hl hdg (fun H1 locs1 h => kk H1 locs1 (by rw [zUp_s, zUp_u] at h; exact h))
theorem gn_X3_spentLooking (X : zC p m c cc nL s args own D k a) (hH : zH D k a s (zUp g 0 v) H locs)  {idx : Nat} (hl : .fieldLink own idx "KeptPlans$State" "spentLooking" "I" ∈ GW) (hdg : decode cc pc = .ok (.getfield idx, 3))
    (kk : W p l e R s m args below meth c H locs cells slots Q (F0 m (pc + 3) ls (.int (v 149) :: rest))) : W p l e R s m args below meth c H locs cells slots Q (F0 m pc ls (.ref (a 0 0) :: rest)) :=
  gf_X3_spentLooking X hH (by omega) hl hdg (by rw [zUp_s]; exact kk)
theorem pn_X3_spentLooking (X : zC p m c cc nL s args own D k a) (hH : zH D k a s (zUp g 0 v) H locs)  {idx : Nat} {x : Int32} (hl : .fieldLink own idx "KeptPlans$State" "spentLooking" "I" ∈ GW) (hdg : decode cc pc = .ok (.putfield idx, 3))
    (kk : ∀ (H : Heap) (locs : List Loc), zH D k a s (zUp g 0 (upd v 149 x)) H locs → W p l e R s m args below meth c H locs cells slots Q (F0 m (pc + 3) ls (rest))) : W p l e R s m args below meth c H locs cells slots Q (F0 m pc ls (.int x :: .ref (a 0 0) :: rest)) :=
  pf_X3_spentLooking X hH (by omega) hl hdg (fun H1 locs1 h => kk H1 locs1 (by rw [zUp_s, zUp_u] at h; exact h))
theorem g2_X3_spentLooking (X : zC p m c cc nL s args own D k a) {i j : Nat} (hi : i < 6) (hj : j < 6) (hij : j ≠ i) (hH : zH D k a s (zUp g i v) H locs) {idx : Nat} (hl : .fieldLink own idx "KeptPlans$State" "spentLooking" "I" ∈ GW) (hdg : decode cc pc = .ok (.getfield idx, 3))
    (kk : W p l e R s m args below meth c H locs cells slots Q (F0 m (pc + 3) ls (.int (g j 149) :: rest))) : W p l e R s m args below meth c H locs cells slots Q (F0 m pc ls (.ref (a j 0) :: rest)) :=
  gf_X3_spentLooking X hH hj hl hdg (by rw [zUp_n _ _ hij]; exact kk)
theorem p2_X3_spentLooking (X : zC p m c cc nL s args own D k a) {i : Nat} (hi : i < 6) (hH : zH D k a s (zUp g i v) H locs) {idx : Nat} {x : Int32} (hl : .fieldLink own idx "KeptPlans$State" "spentLooking" "I" ∈ GW) (hdg : decode cc pc = .ok (.putfield idx, 3))
    (kk : ∀ (H : Heap) (locs : List Loc), zH D k a s (zUp g i (upd v 149 x)) H locs → W p l e R s m args below meth c H locs cells slots Q (F0 m (pc + 3) ls (rest))) : W p l e R s m args below meth c H locs cells slots Q (F0 m pc ls (.int x :: .ref (a i 0) :: rest)) :=
  pf_X3_spentLooking X hH hi hl hdg (fun H1 locs1 h => kk H1 locs1 (by rw [zUp_s, zUp_u] at h; exact h))
theorem gn_X3_turnedBad (X : zC p m c cc nL s args own D k a) (hH : zH D k a s (zUp g 0 v) H locs)  {idx : Nat} (hl : .fieldLink own idx "KeptPlans$State" "turnedBad" "I" ∈ GW) (hdg : decode cc pc = .ok (.getfield idx, 3))
    (kk : W p l e R s m args below meth c H locs cells slots Q (F0 m (pc + 3) ls (.int (v 150) :: rest))) : W p l e R s m args below meth c H locs cells slots Q (F0 m pc ls (.ref (a 0 0) :: rest)) :=
  gf_X3_turnedBad X hH (by omega) hl hdg (by rw [zUp_s]; exact kk)
theorem pn_X3_turnedBad (X : zC p m c cc nL s args own D k a) (hH : zH D k a s (zUp g 0 v) H locs)  {idx : Nat} {x : Int32} (hl : .fieldLink own idx "KeptPlans$State" "turnedBad" "I" ∈ GW) (hdg : decode cc pc = .ok (.putfield idx, 3))
    (kk : ∀ (H : Heap) (locs : List Loc), zH D k a s (zUp g 0 (upd v 150 x)) H locs → W p l e R s m args below meth c H locs cells slots Q (F0 m (pc + 3) ls (rest))) : W p l e R s m args below meth c H locs cells slots Q (F0 m pc ls (.int x :: .ref (a 0 0) :: rest)) :=
  pf_X3_turnedBad X hH (by omega) hl hdg (fun H1 locs1 h => kk H1 locs1 (by rw [zUp_s, zUp_u] at h; exact h))
theorem g2_X3_turnedBad (X : zC p m c cc nL s args own D k a) {i j : Nat} (hi : i < 6) (hj : j < 6) (hij : j ≠ i) (hH : zH D k a s (zUp g i v) H locs) {idx : Nat} (hl : .fieldLink own idx "KeptPlans$State" "turnedBad" "I" ∈ GW) (hdg : decode cc pc = .ok (.getfield idx, 3))
    (kk : W p l e R s m args below meth c H locs cells slots Q (F0 m (pc + 3) ls (.int (g j 150) :: rest))) : W p l e R s m args below meth c H locs cells slots Q (F0 m pc ls (.ref (a j 0) :: rest)) :=
  gf_X3_turnedBad X hH hj hl hdg (by rw [zUp_n _ _ hij]; exact kk)
theorem p2_X3_turnedBad (X : zC p m c cc nL s args own D k a) {i : Nat} (hi : i < 6) (hH : zH D k a s (zUp g i v) H locs) {idx : Nat} {x : Int32} (hl : .fieldLink own idx "KeptPlans$State" "turnedBad" "I" ∈ GW) (hdg : decode cc pc = .ok (.putfield idx, 3))
    (kk : ∀ (H : Heap) (locs : List Loc), zH D k a s (zUp g i (upd v 150 x)) H locs → W p l e R s m args below meth c H locs cells slots Q (F0 m (pc + 3) ls (rest))) : W p l e R s m args below meth c H locs cells slots Q (F0 m pc ls (.int x :: .ref (a i 0) :: rest)) :=
  pf_X3_turnedBad X hH hi hl hdg (fun H1 locs1 h => kk H1 locs1 (by rw [zUp_s, zUp_u] at h; exact h))
theorem gn_X3_crowdedOut (X : zC p m c cc nL s args own D k a) (hH : zH D k a s (zUp g 0 v) H locs)  {idx : Nat} (hl : .fieldLink own idx "KeptPlans$State" "crowdedOut" "I" ∈ GW) (hdg : decode cc pc = .ok (.getfield idx, 3))
    (kk : W p l e R s m args below meth c H locs cells slots Q (F0 m (pc + 3) ls (.int (v 151) :: rest))) : W p l e R s m args below meth c H locs cells slots Q (F0 m pc ls (.ref (a 0 0) :: rest)) :=
  gf_X3_crowdedOut X hH (by omega) hl hdg (by rw [zUp_s]; exact kk)
theorem pn_X3_crowdedOut (X : zC p m c cc nL s args own D k a) (hH : zH D k a s (zUp g 0 v) H locs)  {idx : Nat} {x : Int32} (hl : .fieldLink own idx "KeptPlans$State" "crowdedOut" "I" ∈ GW) (hdg : decode cc pc = .ok (.putfield idx, 3))
    (kk : ∀ (H : Heap) (locs : List Loc), zH D k a s (zUp g 0 (upd v 151 x)) H locs → W p l e R s m args below meth c H locs cells slots Q (F0 m (pc + 3) ls (rest))) : W p l e R s m args below meth c H locs cells slots Q (F0 m pc ls (.int x :: .ref (a 0 0) :: rest)) :=
  pf_X3_crowdedOut X hH (by omega) hl hdg (fun H1 locs1 h => kk H1 locs1 (by rw [zUp_s, zUp_u] at h; exact h))
theorem g2_X3_crowdedOut (X : zC p m c cc nL s args own D k a) {i j : Nat} (hi : i < 6) (hj : j < 6) (hij : j ≠ i) (hH : zH D k a s (zUp g i v) H locs) {idx : Nat} (hl : .fieldLink own idx "KeptPlans$State" "crowdedOut" "I" ∈ GW) (hdg : decode cc pc = .ok (.getfield idx, 3))
    (kk : W p l e R s m args below meth c H locs cells slots Q (F0 m (pc + 3) ls (.int (g j 151) :: rest))) : W p l e R s m args below meth c H locs cells slots Q (F0 m pc ls (.ref (a j 0) :: rest)) :=
  gf_X3_crowdedOut X hH hj hl hdg (by rw [zUp_n _ _ hij]; exact kk)
theorem p2_X3_crowdedOut (X : zC p m c cc nL s args own D k a) {i : Nat} (hi : i < 6) (hH : zH D k a s (zUp g i v) H locs) {idx : Nat} {x : Int32} (hl : .fieldLink own idx "KeptPlans$State" "crowdedOut" "I" ∈ GW) (hdg : decode cc pc = .ok (.putfield idx, 3))
    (kk : ∀ (H : Heap) (locs : List Loc), zH D k a s (zUp g i (upd v 151 x)) H locs → W p l e R s m args below meth c H locs cells slots Q (F0 m (pc + 3) ls (rest))) : W p l e R s m args below meth c H locs cells slots Q (F0 m pc ls (.int x :: .ref (a i 0) :: rest)) :=
  pf_X3_crowdedOut X hH hi hl hdg (fun H1 locs1 h => kk H1 locs1 (by rw [zUp_s, zUp_u] at h; exact h))
theorem gt_X2_length (X : zC p m c cc nL s args own D k a) (hH : zH D k a s (zT g u w tt n) H locs) {idx : Nat} (hl : .fieldLink own idx "KeptPlans$QuestionText" "length" "I" ∈ GW) (hdg : decode cc pc = .ok (.getfield idx, 3))
    (kk : W p l e R s m args below meth c H locs cells slots Q (F0 m (pc + 3) ls (.int (u 2) :: rest))) : W p l e R s m args below meth c H locs cells slots Q (F0 m pc ls (.ref (a 6 3) :: rest)) :=
  gf_X2_length X hH hl hdg (by rw [zT_6]; exact kk)
theorem pt_X2_length (X : zC p m c cc nL s args own D k a) (hH : zH D k a s (zT g u w tt n) H locs) {idx : Nat} {x : Int32} (hl : .fieldLink own idx "KeptPlans$QuestionText" "length" "I" ∈ GW) (hdg : decode cc pc = .ok (.putfield idx, 3))
    (kk : ∀ (H : Heap) (locs : List Loc), zH D k a s (zT g (upd u 2 x) w tt n) H locs → W p l e R s m args below meth c H locs cells slots Q (F0 m (pc + 3) ls (rest))) : W p l e R s m args below meth c H locs cells slots Q (F0 m pc ls (.int x :: .ref (a 6 3) :: rest)) :=
  pf_X2_length X hH hl hdg (fun H1 locs1 h => kk H1 locs1 (by rw [zT_6, zT_p6] at h; exact h))
theorem gt_X2_lines (X : zC p m c cc nL s args own D k a) (hH : zH D k a s (zT g u w tt n) H locs) {idx : Nat} (hl : .fieldLink own idx "KeptPlans$QuestionText" "lines" "I" ∈ GW) (hdg : decode cc pc = .ok (.getfield idx, 3))
    (kk : W p l e R s m args below meth c H locs cells slots Q (F0 m (pc + 3) ls (.int (u 3) :: rest))) : W p l e R s m args below meth c H locs cells slots Q (F0 m pc ls (.ref (a 6 3) :: rest)) :=
  gf_X2_lines X hH hl hdg (by rw [zT_6]; exact kk)
theorem pt_X2_lines (X : zC p m c cc nL s args own D k a) (hH : zH D k a s (zT g u w tt n) H locs) {idx : Nat} {x : Int32} (hl : .fieldLink own idx "KeptPlans$QuestionText" "lines" "I" ∈ GW) (hdg : decode cc pc = .ok (.putfield idx, 3))
    (kk : ∀ (H : Heap) (locs : List Loc), zH D k a s (zT g (upd u 3 x) w tt n) H locs → W p l e R s m args below meth c H locs cells slots Q (F0 m (pc + 3) ls (rest))) : W p l e R s m args below meth c H locs cells slots Q (F0 m pc ls (.int x :: .ref (a 6 3) :: rest)) :=
  pf_X2_lines X hH hl hdg (fun H1 locs1 h => kk H1 locs1 (by rw [zT_6, zT_p6] at h; exact h))
theorem gt_X2_at (X : zC p m c cc nL s args own D k a) (hH : zH D k a s (zT g u w tt n) H locs) {idx : Nat} (hl : .fieldLink own idx "KeptPlans$QuestionText" "at" "I" ∈ GW) (hdg : decode cc pc = .ok (.getfield idx, 3))
    (kk : W p l e R s m args below meth c H locs cells slots Q (F0 m (pc + 3) ls (.int (u 4) :: rest))) : W p l e R s m args below meth c H locs cells slots Q (F0 m pc ls (.ref (a 6 3) :: rest)) :=
  gf_X2_at X hH hl hdg (by rw [zT_6]; exact kk)
theorem pt_X2_at (X : zC p m c cc nL s args own D k a) (hH : zH D k a s (zT g u w tt n) H locs) {idx : Nat} {x : Int32} (hl : .fieldLink own idx "KeptPlans$QuestionText" "at" "I" ∈ GW) (hdg : decode cc pc = .ok (.putfield idx, 3))
    (kk : ∀ (H : Heap) (locs : List Loc), zH D k a s (zT g (upd u 4 x) w tt n) H locs → W p l e R s m args below meth c H locs cells slots Q (F0 m (pc + 3) ls (rest))) : W p l e R s m args below meth c H locs cells slots Q (F0 m pc ls (.int x :: .ref (a 6 3) :: rest)) :=
  pf_X2_at X hH hl hdg (fun H1 locs1 h => kk H1 locs1 (by rw [zT_6, zT_p6] at h; exact h))
theorem an_sets (X : zC p m c cc nL s args own D k a) (hH : zH D k a s (zUp g 0 v) H locs) (j : Nat) (hj : j < 5) (hdg : decode cc pc = .ok (.iaload, 1)) (kk : W p l e R s m args below meth c H locs cells slots Q (F0 m (pc + 1) ls (.int (v (8 + j)) :: rest))) : W p l e R s m args below meth c H locs cells slots Q (F0 m pc ls (.int (nI j) :: .ref (a 0 3) :: rest)) :=
  ar_sets X hH (by omega) j hj hdg (by rw [zUp_s]; exact kk)
theorem at_words (X : zC p m c cc nL s args own D k a) (hH : zH D k a s (zT g u w tt n) H locs) (j : Nat) (hj : j < 11) (hdg : decode cc pc = .ok (.iaload, 1)) (kk : W p l e R s m args below meth c H locs cells slots Q (F0 m (pc + 1) ls (.int (w j) :: rest))) : W p l e R s m args below meth c H locs cells slots Q (F0 m pc ls (.int (nI j) :: .ref (a 6 5) :: rest)) :=
  ar_words X hH j hj hdg (by rw [zT_8]; exact kk)
theorem at_tables (X : zC p m c cc nL s args own D k a) (hH : zH D k a s (zT g u w tt n) H locs) (j : Nat) (hj : j < 11) (hdg : decode cc pc = .ok (.iaload, 1)) (kk : W p l e R s m args below meth c H locs cells slots Q (F0 m (pc + 1) ls (.int (tt j) :: rest))) : W p l e R s m args below meth c H locs cells slots Q (F0 m pc ls (.int (nI j) :: .ref (a 6 6) :: rest)) :=
  ar_tables X hH j hj hdg (by rw [zT_9]; exact kk)
theorem at_numbers (X : zC p m c cc nL s args own D k a) (hH : zH D k a s (zT g u w tt n) H locs) (j : Nat) (hj : j < 11) (hdg : decode cc pc = .ok (.iaload, 1)) (kk : W p l e R s m args below meth c H locs cells slots Q (F0 m (pc + 1) ls (.int (n j) :: rest))) : W p l e R s m args below meth c H locs cells slots Q (F0 m pc ls (.int (nI j) :: .ref (a 6 7) :: rest)) :=
  ar_numbers X hH j hj hdg (by rw [zT_17]; exact kk)
theorem at_signs (X : zC p m c cc nL s args own D k a) (hH : zH D k a s (zT g u w tt n) H locs) (j : Nat) (hj : j < 80) (hdg : decode cc pc = .ok (.caload, 1)) (kk : W p l e R s m args below meth c H locs cells slots Q (F0 m (pc + 1) ls (.int (g 7 j) :: rest))) : W p l e R s m args below meth c H locs cells slots Q (F0 m pc ls (.int (nI j) :: .ref (a 6 4) :: rest)) :=
  ar_signs X hH j hj hdg (by rw [zT_7]; exact kk)
theorem a2_sets (X : zC p m c cc nL s args own D k a) {i j : Nat} (hi : i < 6) (hj : j < 6) (hij : j ≠ i) (hH : zH D k a s (zUp g i v) H locs) (q : Nat) (hq : q < 5) (hdg : decode cc pc = .ok (.iaload, 1)) (kk : W p l e R s m args below meth c H locs cells slots Q (F0 m (pc + 1) ls (.int (g j (8 + q)) :: rest))) : W p l e R s m args below meth c H locs cells slots Q (F0 m pc ls (.int (nI q) :: .ref (a j 3) :: rest)) :=
  ar_sets X hH hj q hq hdg (by rw [zUp_n _ _ hij]; exact kk)
theorem s2_sets (X : zC p m c cc nL s args own D k a) {i : Nat} (hi : i < 6) (hH : zH D k a s (zUp g i v) H locs) (q : Nat) (hq : q < 5) {x : Int32} (hdg : decode cc pc = .ok (.iastore, 1)) (kk : ∀ (H : Heap) (locs : List Loc), zH D k a s (zUp g i (upd v (8 + q) x)) H locs → W p l e R s m args below meth c H locs cells slots Q (F0 m (pc + 1) ls (rest))) : W p l e R s m args below meth c H locs cells slots Q (F0 m pc ls (.int x :: .int (nI q) :: .ref (a i 3) :: rest)) :=
  as_sets X hH hi q hq hdg (fun H1 locs1 h => kk H1 locs1 (by rw [zUp_s, zUp_u] at h; exact h))
theorem sn_sets (X : zC p m c cc nL s args own D k a) (hH : zH D k a s (zUp g 0 v) H locs) (j : Nat) (hj : j < 5) {x : Int32} (hdg : decode cc pc = .ok (.iastore, 1)) (kk : ∀ (H : Heap) (locs : List Loc), zH D k a s (zUp g 0 (upd v (8 + j) x)) H locs → W p l e R s m args below meth c H locs cells slots Q (F0 m (pc + 1) ls (rest))) : W p l e R s m args below meth c H locs cells slots Q (F0 m pc ls (.int x :: .int (nI j) :: .ref (a 0 3) :: rest)) :=
  as_sets X hH (by omega) j hj hdg (fun H1 locs1 h => kk H1 locs1 (by rw [zUp_s, zUp_u] at h; exact h))
theorem st_words (X : zC p m c cc nL s args own D k a) (hH : zH D k a s (zT g u w tt n) H locs) (j : Nat) (hj : j < 11) {x : Int32} (hdg : decode cc pc = .ok (.iastore, 1)) (kk : ∀ (H : Heap) (locs : List Loc), zH D k a s (zT g u (upd w j x) tt n) H locs → W p l e R s m args below meth c H locs cells slots Q (F0 m (pc + 1) ls (rest))) : W p l e R s m args below meth c H locs cells slots Q (F0 m pc ls (.int x :: .int (nI j) :: .ref (a 6 5) :: rest)) :=
  as_words X hH j hj hdg (fun H1 locs1 h => kk H1 locs1 (by rw [zT_8, zT_p8] at h; exact h))
theorem st_tables (X : zC p m c cc nL s args own D k a) (hH : zH D k a s (zT g u w tt n) H locs) (j : Nat) (hj : j < 11) {x : Int32} (hdg : decode cc pc = .ok (.iastore, 1)) (kk : ∀ (H : Heap) (locs : List Loc), zH D k a s (zT g u w (upd tt j x) n) H locs → W p l e R s m args below meth c H locs cells slots Q (F0 m (pc + 1) ls (rest))) : W p l e R s m args below meth c H locs cells slots Q (F0 m pc ls (.int x :: .int (nI j) :: .ref (a 6 6) :: rest)) :=
  as_tables X hH j hj hdg (fun H1 locs1 h => kk H1 locs1 (by rw [zT_9, zT_p9] at h; exact h))
theorem st_numbers (X : zC p m c cc nL s args own D k a) (hH : zH D k a s (zT g u w tt n) H locs) (j : Nat) (hj : j < 11) {x : Int32} (hdg : decode cc pc = .ok (.iastore, 1)) (kk : ∀ (H : Heap) (locs : List Loc), zH D k a s (zT g u w tt (upd n j x)) H locs → W p l e R s m args below meth c H locs cells slots Q (F0 m (pc + 1) ls (rest))) : W p l e R s m args below meth c H locs cells slots Q (F0 m pc ls (.int x :: .int (nI j) :: .ref (a 6 7) :: rest)) :=
  as_numbers X hH j hj hdg (fun H1 locs1 h => kk H1 locs1 (by rw [zT_17, zT_p17] at h; exact h))
end ZN
end
section
/-! what each method answers and leaves, of the state's row v: slots 0.. rows, 4.. keys, 8.. settings, 13 + 11 s + f the plan of shape s, 145.. accounts -/
abbrev V := Nat → Int32
def zBl (n : Nat) : Nat := if n = 0 then 0 else n.log2 + 1
def fBits (x : Int32) : Int32 := if 0 < x then nI (zBl x.toNatClampNeg) else 0
def fQuo (x y : Int32) : Int32 := if y < 1 then 0 else x / y
def fMet (v : V) (s : Nat) (n : Int32) : Int32 := if s % 3 = 1 then (if v (s / 3) < fQuo (v (s / 3) * n + v (4 + s / 3) - 1) (v (4 + s / 3)) then v (s / 3) else fQuo (v (s / 3) * n + v (4 + s / 3) - 1) (v (4 + s / 3))) else n
def fRaw (v : V) (s : Nat) (w n : Int32) : Int32 :=
  if w = 0 then (if s % 3 = 2 then v (s / 3) + n * fBits n else v (s / 3))
  else if w = 1 then fBits (v (s / 3)) + fMet v s n * (if s % 3 = 2 then 1 else 3)
  else if s % 3 = 2 then v (s / 3) + n * fBits (v (s / 3)) else 2 * v (s / 3)
def fCost (v : V) (s : Nat) (w n : Int32) : Int32 := if 1000000 < fRaw v s w n then 1000000 else fRaw v s w n
def fB1 (v : V) (s : Nat) (n : Int32) : Int32 := if fCost v s 1 n < fCost v s 0 n then 1 else 0
def fBest (v : V) (s : Nat) (n : Int32) : Int32 := if fCost v s 2 n < fCost v s (fB1 v s n) n then 2 else fB1 v s n
def fAbs (x : Int32) : Int32 := if 0 ≤ x then x else 0 - x
def fChanged (v : V) (s : Nat) : Bool := decide (v (13 + 11 * s + 10) / 2 < fAbs (v (s / 3) - v (13 + 11 * s + 10)))
def fOld (v : V) (s : Nat) : Bool := decide (v 10 < v 145 - v (13 + 11 * s + 6))
def fDear (v : V) (s : Nat) (x : Int32) : Bool := decide (v 12 * v (13 + 11 * s + 5) < x)
def fWhy (v : V) (s : Nat) (n : Int32) : Int32 := if v (13 + 11 * s + 0) = 0 then 1 else if n < v (13 + 11 * s + 2) then 2 else if v (13 + 11 * s + 3) < n then 3 else if fChanged v s = true then 4 else if fOld v s = true then 5 else 0
/-- how many of the shapes below n are kept; pinned; stale -/
def fK (v : V) : Nat → Int32
  | 0 => 0
  | n + 1 => if v (13 + 11 * n + 0) = 0 then fK v n else fK v n + 1
def fP (v : V) : Nat → Int32
  | 0 => 0
  | n + 1 => if v (13 + 11 * n + 0) = 0 then fP v n else if v (13 + 11 * n + 8) = 0 then fP v n else fP v n + 1
def fS (v : V) : Nat → Int32
  | 0 => 0
  | n + 1 => if v (13 + 11 * n + 0) = 0 then fS v n else if fChanged v n = true ∨ fOld v n = true then fS v n + 1 else fS v n
def fKo (v : V) (t : Nat) : Nat → Int32
  | 0 => 0
  | n + 1 => if v (13 + 11 * (3 * t + n) + 0) = 0 then fKo v t n else fKo v t n + 1
/-- the oldest plan below n that isn't pinned: its shape (or -4), when it was used -/
def fO (v : V) : Nat → Int32 × Int32
  | 0 => (-4, 0)
  | n + 1 => if v (13 + 11 * n + 0) = 0 then fO v n else if v (13 + 11 * n + 8) = 0 then (if (fO v n).1 = -4 ∨ v (13 + 11 * n + 7) < (fO v n).2 then (nI n, v (13 + 11 * n + 7)) else fO v n) else fO v n
def fOldest (v : V) : Int32 := (fO v 12).1
def fKill (v : V) (s : Nat) : V := upd (upd v (13 + 11 * s + 0) 0) 151 (v 151 + 1)
def fCrowd : Nat → V → V
  | 0, v => v
  | n + 1, v => if fOldest v < 0 then v else fCrowd n (fKill v (fOldest v).toNatClampNeg)
def fDown (v : V) (most : Int32) : V := fCrowd (fK v 12 - most).toNatClampNeg v
def fLacks (v : V) (s : Nat) : Bool := decide (v (13 + 11 * s + 0) = 0 ∧ ¬ fK v 12 < v 11)
def fCould (v : V) (s : Nat) : Bool := decide (¬ v (13 + 11 * s + 0) = 0 ∨ fP v 12 < v 11)
def fRoom (v : V) (s : Nat) : V := if fLacks v s = true then fDown v (v 11 - 1) else v
def fFirst (v : V) (s : Nat) : Int32 := if fLacks v s = true then fOldest v else -4
/-- a plan is laid: in the order of the class's writes -/
def fPlace (v : V) (s : Nat) (w n least most : Int32) : V :=
  upd (upd (upd (upd (upd (upd (upd (upd (upd (upd (upd v (13 + 11 * s + 0) 1) (13 + 11 * s + 8) 0) (13 + 11 * s + 1) w) (13 + 11 * s + 2) least) (13 + 11 * s + 3) most) (13 + 11 * s + 4) n) (13 + 11 * s + 5) (fCost v s w n)) (13 + 11 * s + 10) (v (s / 3))) (13 + 11 * s + 9) 0) (13 + 11 * s + 6) (v 145)) (13 + 11 * s + 7) (v 145)
/-- a hit: its cost, what it leaves (the questions are counted ahead) -/
def fHitV (v : V) (s : Nat) : V := upd (upd (upd v 146 (v 146 + 1)) (13 + 11 * s + 9) (v (13 + 11 * s + 9) + 1)) (13 + 11 * s + 7) (v 145)
def fHit (v : V) (s : Nat) (n : Int32) : Int32 × V :=
  (fCost v s (v (13 + 11 * s + 1)) n, if fDear (fHitV v s) s (fCost v s (v (13 + 11 * s + 1)) n) = true then upd (upd (fHitV v s) (13 + 11 * s + 0) 0) 150 (v 150 + 1) else fHitV v s)
def fMissA (v : V) (s : Nat) : V := fRoom (upd (upd v 147 (v 147 + 1)) 149 (v 149 + v 8)) s
def fMissV (v : V) (s : Nat) (n : Int32) : V := if fCould (fMissA v s) s = true then fPlace (fMissA v s) s (fBest v s n) n (fQuo n (v 9)) (n * v 9) else fMissA v s
def fMiss (v : V) (s : Nat) (n : Int32) : Int32 × V := (fCost v s (fBest v s n) n + v 8, fMissV v s n)
/-- a question -/
def fAskQ (v : V) (s : Nat) (q : Int32 × V) : Int32 × V := (q.1, upd (upd (upd q.2 148 (q.2 148 + q.1)) (152 + s / 3) (q.2 (152 + s / 3) + 1)) (156 + s / 3) (q.2 (156 + s / 3) + q.1))
def fAsk (v : V) (s : Nat) (n : Int32) : Int32 × V := fAskQ v s (if fWhy v s n = 0 then fHit (upd v 145 (v 145 + 1)) s n else fMiss (upd v 145 (v 145 + 1)) s n)
def fResize (v : V) (q : Nat) (x many : Int32) : V := if x = 0 then upd v q many else upd v (4 + q) many
/-- one row copied over another, as the class does it -/
def cpT (v w : V) (t : Nat) : V := upd (upd (upd (upd v t (w t)) (4 + t) (w (4 + t))) (152 + t) (w (152 + t))) (156 + t) (w (156 + t))
def cpP (v w : V) (t : Nat) : V := upd (upd (upd (upd (upd (upd (upd (upd (upd (upd (upd v (13 + 11 * t + 0) (w (13 + 11 * t + 0))) (13 + 11 * t + 8) (w (13 + 11 * t + 8))) (13 + 11 * t + 1) (w (13 + 11 * t + 1))) (13 + 11 * t + 2) (w (13 + 11 * t + 2))) (13 + 11 * t + 3) (w (13 + 11 * t + 3))) (13 + 11 * t + 4) (w (13 + 11 * t + 4))) (13 + 11 * t + 5) (w (13 + 11 * t + 5))) (13 + 11 * t + 10) (w (13 + 11 * t + 10))) (13 + 11 * t + 9) (w (13 + 11 * t + 9))) (13 + 11 * t + 6) (w (13 + 11 * t + 6))) (13 + 11 * t + 7) (w (13 + 11 * t + 7))
def cpTs (v w : V) : Nat → V
  | 0 => v
  | n + 1 => cpT (cpTs v w n) w n
def cpPs (v w : V) : Nat → V
  | 0 => v
  | n + 1 => cpP (cpPs v w n) w n
def cpSs (v w : V) : Nat → V
  | 0 => v
  | n + 1 => upd (cpSs v w n) (8 + n) (w (8 + n))
def cpAll (v w : V) : V := upd (upd (upd (upd (upd (upd (upd (cpSs (cpPs (cpTs v w 4) w 12) w 5) 145 (w 145)) 146 (w 146)) 147 (w 147)) 148 (w 148)) 149 (w 149)) 150 (w 150)) 151 (w 151)
/-- the flags of a row are 0 or 1 -/
def zFl (w : V) : Prop := ∀ t, t < 12 → (w (13 + 11 * t + 0) = 0 ∨ w (13 + 11 * t + 0) = 1) ∧ (w (13 + 11 * t + 8) = 0 ∨ w (13 + 11 * t + 8) = 1)
/-- the class's history: the state now is written at the place x; the latest comes back -/
def zRecX (g : Mem) (x : Nat) : Mem := zUp (zUp g (2 + x) (g 0)) 6 (upd (upd (g 6) 0 (nI ((x + 1) % 4))) 1 (if 4 < g 6 1 + 1 then 4 else g 6 1 + 1))
def zRec (g : Mem) : Mem := zRecX g (g 6 0).toNatClampNeg
def zBackX (g : Mem) (x : Nat) : Mem := zUp (zUp g 6 (upd (upd (g 6) 0 (nI ((x + 3) % 4))) 1 (g 6 1 - 1))) 0 (g (2 + (x + 3) % 4))
def zBack (g : Mem) : Mem := zBackX g (g 6 0).toNatClampNeg
end
section
/-! plain facts of numbers -/
theorem zPos {x : Int32} (h : 0 < x) : ∃ N, N < 2 ^ 31 ∧ x = nI N :=
  nI_of (fun q => absurd (Int32.lt_iff_toInt_lt.mp h) (by have := Int32.lt_iff_toInt_lt.mp q; omega))
theorem zBl_lt (N i : Nat) : i < zBl N ↔ 0 < N / 2 ^ i := by
  unfold zBl
  by_cases h : N = 0
  · subst h
    simp
  · rw [if_neg h, Nat.lt_succ_iff, Nat.le_log2 h, Nat.div_pos_iff]
    exact ⟨fun q => ⟨Nat.two_pow_pos i, q⟩, fun q => q.2⟩
theorem zBl_ge {N i : Nat} (h : zBl N ≤ i) : N / 2 ^ i = 0 := by
  rcases Nat.eq_zero_or_pos (N / 2 ^ i) with q | q
  · exact q
  · exact absurd ((zBl_lt N i).mpr q) (by omega)
theorem zBl_31 {N : Nat} (h : N < 2 ^ 31) : zBl N ≤ 31 := by
  unfold zBl
  by_cases h0 : N = 0
  · rw [if_pos h0]; omega
  · rw [if_neg h0]
    have h1 : ¬ 31 ≤ N.log2 := fun q => by have := (Nat.le_log2 h0).mp q; omega
    omega
theorem z_shr0p {x : Int32} (h : (0 : Int32) < x >>> ((0 : Int32) &&& 31)) : 0 < x := by
  have e : x >>> ((0 : Int32) &&& 31) = x := by
    have h1 : ((0 : Int32) &&& 31) = 0 := by decide
    rw [h1]
    simp
  rw [e] at h
  exact h
theorem z10 : ((1 : Int32) = 0) = False := eq_false (by decide)
theorem z_cl0 {x : Int32} (h : ¬ 0 < x) : x.toNatClampNeg = 0 := by
  have h1 : ¬ (0 : Int32).toInt < x.toInt := fun q => h (Int32.lt_iff_toInt_lt.mpr q)
  have h2 : x.toInt ≤ 0 := by simpa using h1
  show x.toInt.toNat = 0
  omega
theorem fO_nat (v : V) : ∀ n, (fO v n).1 = -4 ∨ ∃ S, S < n ∧ (fO v n).1 = nI S ∧ (fO v n).2 = v (13 + 11 * S + 7) ∧ ¬ v (13 + 11 * S + 0) = 0 ∧ v (13 + 11 * S + 8) = 0
  | 0 => Or.inl rfl
  | n + 1 => by
    have ih : (fO v n).1 = -4 ∨ ∃ S, S < n + 1 ∧ (fO v n).1 = nI S ∧ (fO v n).2 = v (13 + 11 * S + 7) ∧ ¬ v (13 + 11 * S + 0) = 0 ∧ v (13 + 11 * S + 8) = 0 := by
      rcases fO_nat v n with h | ⟨S, h1, h2⟩
      · exact Or.inl h
      · exact Or.inr ⟨S, by omega, h2⟩
    unfold fO
    by_cases h1 : v (13 + 11 * n + 0) = 0
    · rw [if_pos h1]; exact ih
    · rw [if_neg h1]
      by_cases h2 : v (13 + 11 * n + 8) = 0
      · rw [if_pos h2]
        by_cases h3 : (fO v n).1 = -4 ∨ v (13 + 11 * n + 7) < (fO v n).2
        · rw [if_pos h3]; exact Or.inr ⟨n, by omega, rfl, rfl, h1, h2⟩
        · rw [if_neg h3]; exact ih
      · rw [if_neg h2]; exact ih
theorem fOldest_nat {v : V} (h : ¬ fOldest v < 0) : ∃ S, S < 12 ∧ fOldest v = nI S ∧ ¬ v (13 + 11 * S + 0) = 0 ∧ v (13 + 11 * S + 8) = 0 := by
  rcases fO_nat v 12 with q | ⟨S, h1, h2, -, h3, h4⟩
  · exact absurd (by unfold fOldest; rw [q]; decide) h
  · exact ⟨S, h1, h2, h3, h4⟩
theorem fKill_o {v : V} {s j : Nat} (h1 : j ≠ 151) (h2 : j ≠ 13 + 11 * s + 0) : fKill v s j = v j := by
  unfold fKill
  rw [zu_n _ _ h1, zu_n _ _ h2]
theorem fCrowd_o {j : Nat} (h : j < 13 ∨ (145 ≤ j ∧ j ≠ 151)) : ∀ (n : Nat) (v : V), fCrowd n v j = v j
  | 0, _ => rfl
  | n + 1, v => by
    unfold fCrowd
    by_cases h1 : fOldest v < 0
    · rw [if_pos h1]
    · rw [if_neg h1, fCrowd_o h n]
      obtain ⟨S, hS, e, -, -⟩ := fOldest_nat h1
      rw [e, nI_clamp (by omega)]
      exact fKill_o (by omega) (by omega)
theorem fRoom_o {v : V} {s j : Nat} (h : j < 13 ∨ (145 ≤ j ∧ j ≠ 151)) : fRoom v s j = v j := by
  unfold fRoom
  by_cases h1 : fLacks v s = true
  · rw [if_pos h1]; exact fCrowd_o h _ _
  · rw [if_neg h1]
theorem fPlace_o {v : V} {s j : Nat} {w n a b : Int32} (hs : s < 12) (h : j < 13 ∨ 145 ≤ j) : fPlace v s w n a b j = v j := by
  unfold fPlace
  rw [zu_n _ _ (by omega), zu_n _ _ (by omega), zu_n _ _ (by omega), zu_n _ _ (by omega), zu_n _ _ (by omega), zu_n _ _ (by omega), zu_n _ _ (by omega), zu_n _ _ (by omega), zu_n _ _ (by omega), zu_n _ _ (by omega), zu_n _ _ (by omega)]
theorem fMet_co {v w : V} {s : Nat} {n : Int32} (hs : s < 12) (h : ∀ j, j < 8 → w j = v j) : fMet w s n = fMet v s n := by
  unfold fMet
  rw [h (s / 3) (by omega), h (4 + s / 3) (by omega)]
theorem fCost_co {v w : V} {s : Nat} {b n : Int32} (hs : s < 12) (h : ∀ j, j < 8 → w j = v j) : fCost w s b n = fCost v s b n := by
  unfold fCost fRaw
  rw [fMet_co hs h, h (s / 3) (by omega)]
theorem fBest_co {v w : V} {s : Nat} {n : Int32} (hs : s < 12) (h : ∀ j, j < 8 → w j = v j) : fBest w s n = fBest v s n := by
  unfold fBest fB1
  simp only [fCost_co hs h]
theorem cpT_at {v w : V} {t : Nat} (j : Nat) : cpT v w t j = if j = t ∨ j = 4 + t ∨ j = 152 + t ∨ j = 156 + t then w j else v j := by
  unfold cpT
  by_cases h1 : j = 156 + t
  · rw [if_pos (by omega), h1, zu_s]
  · rw [zu_n _ _ h1]
    by_cases h2 : j = 152 + t
    · rw [if_pos (by omega), h2, zu_s]
    · rw [zu_n _ _ h2]
      by_cases h3 : j = 4 + t
      · rw [if_pos (by omega), h3, zu_s]
      · rw [zu_n _ _ h3]
        by_cases h4 : j = t
        · rw [if_pos (by omega), h4, zu_s]
        · rw [zu_n _ _ h4, if_neg (by omega)]
theorem cpTs_at {v w : V} (j : Nat) : ∀ n, cpTs v w n j = if ∃ t, t < n ∧ (j = t ∨ j = 4 + t ∨ j = 152 + t ∨ j = 156 + t) then w j else v j
  | 0 => by rw [if_neg (by rintro ⟨t, h, -⟩; omega)]; rfl
  | n + 1 => by
    unfold cpTs
    rw [cpT_at, cpTs_at j n]
    by_cases h1 : j = n ∨ j = 4 + n ∨ j = 152 + n ∨ j = 156 + n
    · rw [if_pos h1, if_pos ⟨n, by omega, h1⟩]
    · rw [if_neg h1]
      by_cases h2 : ∃ t, t < n ∧ (j = t ∨ j = 4 + t ∨ j = 152 + t ∨ j = 156 + t)
      · rw [if_pos h2]
        obtain ⟨t, h3, h4⟩ := h2
        rw [if_pos ⟨t, by omega, h4⟩]
      · rw [if_neg h2, if_neg (by
          rintro ⟨t, h3, h4⟩
          by_cases h5 : t = n
          · exact h1 (h5 ▸ h4)
          · exact h2 ⟨t, by omega, h4⟩)]
theorem cpP_at {v w : V} {t : Nat} (j : Nat) : cpP v w t j = if 13 + 11 * t ≤ j ∧ j < 13 + 11 * t + 11 then w j else v j := by
  unfold cpP
  by_cases h : 13 + 11 * t ≤ j ∧ j < 13 + 11 * t + 11
  · rw [if_pos h]
    obtain ⟨f, hf, rfl⟩ : ∃ f, f < 11 ∧ j = 13 + 11 * t + f := ⟨j - (13 + 11 * t), by omega, by omega⟩
    rcases (show f = 0 ∨ f = 1 ∨ f = 2 ∨ f = 3 ∨ f = 4 ∨ f = 5 ∨ f = 6 ∨ f = 7 ∨ f = 8 ∨ f = 9 ∨ f = 10 by omega) with rfl | rfl | rfl | rfl | rfl | rfl | rfl | rfl | rfl | rfl | rfl <;> simp [upd]
  · rw [if_neg h, zu_n _ _ (by omega), zu_n _ _ (by omega), zu_n _ _ (by omega), zu_n _ _ (by omega), zu_n _ _ (by omega), zu_n _ _ (by omega), zu_n _ _ (by omega), zu_n _ _ (by omega), zu_n _ _ (by omega), zu_n _ _ (by omega), zu_n _ _ (by omega)]
theorem cpPs_at {v w : V} (j : Nat) : ∀ n, cpPs v w n j = if 13 ≤ j ∧ j < 13 + 11 * n then w j else v j
  | 0 => by rw [if_neg (by omega)]; rfl
  | n + 1 => by
    unfold cpPs
    rw [cpP_at, cpPs_at j n]
    by_cases h1 : 13 + 11 * n ≤ j ∧ j < 13 + 11 * n + 11
    · rw [if_pos h1, if_pos (by omega)]
    · rw [if_neg h1]
      by_cases h2 : 13 ≤ j ∧ j < 13 + 11 * n
      · rw [if_pos h2, if_pos (by omega)]
      · rw [if_neg h2, if_neg (by omega)]
theorem cpSs_at {v w : V} (j : Nat) : ∀ n, cpSs v w n j = if 8 ≤ j ∧ j < 8 + n then w j else v j
  | 0 => by rw [if_neg (by omega)]; rfl
  | n + 1 => by
    unfold cpSs
    by_cases h1 : j = 8 + n
    · rw [h1, zu_s, if_pos (by omega)]
    · rw [zu_n _ _ h1, cpSs_at j n]
      by_cases h2 : 8 ≤ j ∧ j < 8 + n
      · rw [if_pos h2, if_pos (by omega)]
      · rw [if_neg h2, if_neg (by omega)]
theorem cpAll_eq {v w : V} (h : ∀ j, 160 ≤ j → v j = w j) : cpAll v w = w := by
  funext j
  unfold cpAll
  rcases Nat.lt_or_ge j 160 with hj | hj
  · by_cases h1 : j = 151
    · rw [h1, zu_s]
    · rw [zu_n _ _ h1]
      by_cases h2 : j = 150
      · rw [h2, zu_s]
      · rw [zu_n _ _ h2]
        by_cases h3 : j = 149
        · rw [h3, zu_s]
        · rw [zu_n _ _ h3]
          by_cases h4 : j = 148
          · rw [h4, zu_s]
          · rw [zu_n _ _ h4]
            by_cases h5 : j = 147
            · rw [h5, zu_s]
            · rw [zu_n _ _ h5]
              by_cases h6 : j = 146
              · rw [h6, zu_s]
              · rw [zu_n _ _ h6]
                by_cases h7 : j = 145
                · rw [h7, zu_s]
                · rw [zu_n _ _ h7, cpSs_at, cpPs_at, cpTs_at]
                  by_cases h8 : 8 ≤ j ∧ j < 8 + 5
                  · rw [if_pos h8]
                  · rw [if_neg h8]
                    by_cases h9 : 13 ≤ j ∧ j < 13 + 11 * 12
                    · rw [if_pos h9]
                    · rw [if_neg h9, if_pos]
                      rcases (show j < 4 ∨ (4 ≤ j ∧ j < 8) ∨ (152 ≤ j ∧ j < 156) ∨ (156 ≤ j ∧ j < 160) by omega) with q | q | q | q
                      · exact ⟨j, by omega, by omega⟩
                      · exact ⟨j - 4, by omega, by omega⟩
                      · exact ⟨j - 152, by omega, by omega⟩
                      · exact ⟨j - 156, by omega, by omega⟩
  · rw [zu_n _ _ (by omega), zu_n _ _ (by omega), zu_n _ _ (by omega), zu_n _ _ (by omega), zu_n _ _ (by omega), zu_n _ _ (by omega), zu_n _ _ (by omega), cpSs_at, cpPs_at, cpTs_at, if_neg (by omega), if_neg (by omega), if_neg (by rintro ⟨t, h3, h4⟩; omega)]
    exact h j hj
end
