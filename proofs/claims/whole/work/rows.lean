section
-- ===== PART A: goes FIRST, ahead of the names: the tables' words, and 'selects' of the private methods out of them =====
/-- a private method of a class that the tables say can be made, by its rows of tables_1 -/
def lw_okq (q : MethodName × Nat) : Prop := (q.1.cls ≠ "java/lang/invoke/MethodHandle" ∧ q.1.cls ≠ "java/lang/invoke/VarHandle") ∧ Cond.instantiable q.1.cls q.2 ∈ tables_1 ∧ Cond.privateMethod q.1 ∈ tables_1 ∧ Cond.instanceMethod q.1 ∈ tables_1
theorem lw_p0 : lw_okq (⟨"KeptPlans", "hasPlan", "(I)Z"⟩, 5) := ⟨⟨by decide +kernel, by decide +kernel⟩, List.mem_of_getElem? (i := 14) (by decide +kernel), List.mem_of_getElem? (i := 458) (by decide +kernel), List.mem_of_getElem? (i := 459) (by decide +kernel)⟩
theorem lw_p1 : lw_okq (⟨"KeptPlansModel", "records", "()V"⟩, 12) := ⟨⟨by decide +kernel, by decide +kernel⟩, List.mem_of_getElem? (i := 571) (by decide +kernel), List.mem_of_getElem? (i := 621) (by decide +kernel), List.mem_of_getElem? (i := 622) (by decide +kernel)⟩
theorem lw_p2 : lw_okq (⟨"KeptPlansModel", "copies", "(II)V"⟩, 12) := ⟨⟨by decide +kernel, by decide +kernel⟩, List.mem_of_getElem? (i := 571) (by decide +kernel), List.mem_of_getElem? (i := 625) (by decide +kernel), List.mem_of_getElem? (i := 626) (by decide +kernel)⟩
theorem lw_p3 : lw_okq (⟨"KeptPlansModel", "asks", "(III)I"⟩, 12) := ⟨⟨by decide +kernel, by decide +kernel⟩, List.mem_of_getElem? (i := 571) (by decide +kernel), List.mem_of_getElem? (i := 639) (by decide +kernel), List.mem_of_getElem? (i := 640) (by decide +kernel)⟩
theorem lw_p4 : lw_okq (⟨"KeptPlansModel", "why", "(III)I"⟩, 12) := ⟨⟨by decide +kernel, by decide +kernel⟩, List.mem_of_getElem? (i := 571) (by decide +kernel), List.mem_of_getElem? (i := 646) (by decide +kernel), List.mem_of_getElem? (i := 647) (by decide +kernel)⟩
theorem lw_p5 : lw_okq (⟨"KeptPlansModel", "isChanged", "(II)Z"⟩, 12) := ⟨⟨by decide +kernel, by decide +kernel⟩, List.mem_of_getElem? (i := 571) (by decide +kernel), List.mem_of_getElem? (i := 650) (by decide +kernel), List.mem_of_getElem? (i := 651) (by decide +kernel)⟩
theorem lw_p6 : lw_okq (⟨"KeptPlansModel", "isOld", "(II)Z"⟩, 12) := ⟨⟨by decide +kernel, by decide +kernel⟩, List.mem_of_getElem? (i := 571) (by decide +kernel), List.mem_of_getElem? (i := 654) (by decide +kernel), List.mem_of_getElem? (i := 655) (by decide +kernel)⟩
theorem lw_p7 : lw_okq (⟨"KeptPlansModel", "age", "(II)I"⟩, 12) := ⟨⟨by decide +kernel, by decide +kernel⟩, List.mem_of_getElem? (i := 571) (by decide +kernel), List.mem_of_getElem? (i := 658) (by decide +kernel), List.mem_of_getElem? (i := 659) (by decide +kernel)⟩
theorem lw_p8 : lw_okq (⟨"KeptPlansModel", "cheapestOf", "(III)I"⟩, 12) := ⟨⟨by decide +kernel, by decide +kernel⟩, List.mem_of_getElem? (i := 571) (by decide +kernel), List.mem_of_getElem? (i := 662) (by decide +kernel), List.mem_of_getElem? (i := 663) (by decide +kernel)⟩
theorem lw_p9 : lw_okq (⟨"KeptPlansModel", "costs", "(IIII)I"⟩, 12) := ⟨⟨by decide +kernel, by decide +kernel⟩, List.mem_of_getElem? (i := 571) (by decide +kernel), List.mem_of_getElem? (i := 666) (by decide +kernel), List.mem_of_getElem? (i := 667) (by decide +kernel)⟩
theorem lw_p10 : lw_okq (⟨"KeptPlansModel", "hasRoom", "(II)Z"⟩, 12) := ⟨⟨by decide +kernel, by decide +kernel⟩, List.mem_of_getElem? (i := 571) (by decide +kernel), List.mem_of_getElem? (i := 674) (by decide +kernel), List.mem_of_getElem? (i := 675) (by decide +kernel)⟩
theorem lw_p11 : lw_okq (⟨"KeptPlansModel", "kept", "(I)I"⟩, 12) := ⟨⟨by decide +kernel, by decide +kernel⟩, List.mem_of_getElem? (i := 571) (by decide +kernel), List.mem_of_getElem? (i := 678) (by decide +kernel), List.mem_of_getElem? (i := 679) (by decide +kernel)⟩
theorem lw_p12 : lw_okq (⟨"KeptPlansModel", "oldestOf", "(I)I"⟩, 12) := ⟨⟨by decide +kernel, by decide +kernel⟩, List.mem_of_getElem? (i := 571) (by decide +kernel), List.mem_of_getElem? (i := 682) (by decide +kernel), List.mem_of_getElem? (i := 683) (by decide +kernel)⟩
theorem lw_p13 : lw_okq (⟨"KeptPlansModel", "throwsOldest", "(I)V"⟩, 12) := ⟨⟨by decide +kernel, by decide +kernel⟩, List.mem_of_getElem? (i := 571) (by decide +kernel), List.mem_of_getElem? (i := 686) (by decide +kernel), List.mem_of_getElem? (i := 687) (by decide +kernel)⟩
theorem lw_p14 : lw_okq (⟨"KeptPlansModel", "lays", "(IIIIII)V"⟩, 12) := ⟨⟨by decide +kernel, by decide +kernel⟩, List.mem_of_getElem? (i := 571) (by decide +kernel), List.mem_of_getElem? (i := 690) (by decide +kernel), List.mem_of_getElem? (i := 691) (by decide +kernel)⟩
theorem lw_p15 : lw_okq (⟨"KeptPlansModel", "goes", "(Z)I"⟩, 12) := ⟨⟨by decide +kernel, by decide +kernel⟩, List.mem_of_getElem? (i := 571) (by decide +kernel), List.mem_of_getElem? (i := 698) (by decide +kernel), List.mem_of_getElem? (i := 699) (by decide +kernel)⟩
def lw_privs_1 : List (MethodName × Nat) := [(⟨"KeptPlans", "hasPlan", "(I)Z"⟩, 5), (⟨"KeptPlansModel", "records", "()V"⟩, 12), (⟨"KeptPlansModel", "copies", "(II)V"⟩, 12), (⟨"KeptPlansModel", "asks", "(III)I"⟩, 12), (⟨"KeptPlansModel", "why", "(III)I"⟩, 12), (⟨"KeptPlansModel", "isChanged", "(II)Z"⟩, 12), (⟨"KeptPlansModel", "isOld", "(II)Z"⟩, 12), (⟨"KeptPlansModel", "age", "(II)I"⟩, 12), (⟨"KeptPlansModel", "cheapestOf", "(III)I"⟩, 12), (⟨"KeptPlansModel", "costs", "(IIII)I"⟩, 12), (⟨"KeptPlansModel", "hasRoom", "(II)Z"⟩, 12), (⟨"KeptPlansModel", "kept", "(I)I"⟩, 12), (⟨"KeptPlansModel", "oldestOf", "(I)I"⟩, 12), (⟨"KeptPlansModel", "throwsOldest", "(I)V"⟩, 12), (⟨"KeptPlansModel", "lays", "(IIIIII)V"⟩, 12), (⟨"KeptPlansModel", "goes", "(Z)I"⟩, 12)]
theorem lw_r1 : ∀ q ∈ lw_privs_1, lw_okq q := List.forall_mem_cons.mpr ⟨lw_p0, List.forall_mem_cons.mpr ⟨lw_p1, List.forall_mem_cons.mpr ⟨lw_p2, List.forall_mem_cons.mpr ⟨lw_p3, List.forall_mem_cons.mpr ⟨lw_p4, List.forall_mem_cons.mpr ⟨lw_p5, List.forall_mem_cons.mpr ⟨lw_p6, List.forall_mem_cons.mpr ⟨lw_p7, List.forall_mem_cons.mpr ⟨lw_p8, List.forall_mem_cons.mpr ⟨lw_p9, List.forall_mem_cons.mpr ⟨lw_p10, List.forall_mem_cons.mpr ⟨lw_p11, List.forall_mem_cons.mpr ⟨lw_p12, List.forall_mem_cons.mpr ⟨lw_p13, List.forall_mem_cons.mpr ⟨lw_p14, List.forall_mem_cons.mpr ⟨lw_p15, fun _ h => absurd h List.not_mem_nil⟩⟩⟩⟩⟩⟩⟩⟩⟩⟩⟩⟩⟩⟩⟩⟩
theorem lw_p16 : lw_okq (⟨"KeptPlansModel", "reads", "()Z"⟩, 12) := ⟨⟨by decide +kernel, by decide +kernel⟩, List.mem_of_getElem? (i := 571) (by decide +kernel), List.mem_of_getElem? (i := 702) (by decide +kernel), List.mem_of_getElem? (i := 703) (by decide +kernel)⟩
theorem lw_p17 : lw_okq (⟨"KeptPlansModel", "word", "()Z"⟩, 12) := ⟨⟨by decide +kernel, by decide +kernel⟩, List.mem_of_getElem? (i := 571) (by decide +kernel), List.mem_of_getElem? (i := 706) (by decide +kernel), List.mem_of_getElem? (i := 707) (by decide +kernel)⟩
theorem lw_p18 : lw_okq (⟨"KeptPlansModel", "takes", "(C)Z"⟩, 12) := ⟨⟨by decide +kernel, by decide +kernel⟩, List.mem_of_getElem? (i := 571) (by decide +kernel), List.mem_of_getElem? (i := 710) (by decide +kernel), List.mem_of_getElem? (i := 711) (by decide +kernel)⟩
theorem lw_p19 : lw_okq (⟨"KeptPlansModel", "isAt", "(C)Z"⟩, 12) := ⟨⟨by decide +kernel, by decide +kernel⟩, List.mem_of_getElem? (i := 571) (by decide +kernel), List.mem_of_getElem? (i := 714) (by decide +kernel), List.mem_of_getElem? (i := 715) (by decide +kernel)⟩
theorem lw_p20 : lw_okq (⟨"KeptPlansModel", "isDigit", "(CC)Z"⟩, 12) := ⟨⟨by decide +kernel, by decide +kernel⟩, List.mem_of_getElem? (i := 571) (by decide +kernel), List.mem_of_getElem? (i := 718) (by decide +kernel), List.mem_of_getElem? (i := 719) (by decide +kernel)⟩
theorem lw_p21 : lw_okq (⟨"KeptPlansModel", "does", "()I"⟩, 12) := ⟨⟨by decide +kernel, by decide +kernel⟩, List.mem_of_getElem? (i := 571) (by decide +kernel), List.mem_of_getElem? (i := 722) (by decide +kernel), List.mem_of_getElem? (i := 723) (by decide +kernel)⟩
theorem lw_p22 : lw_okq (⟨"KeptPlansModel", "hasPlan", "(I)Z"⟩, 12) := ⟨⟨by decide +kernel, by decide +kernel⟩, List.mem_of_getElem? (i := 571) (by decide +kernel), List.mem_of_getElem? (i := 730) (by decide +kernel), List.mem_of_getElem? (i := 731) (by decide +kernel)⟩
theorem lw_p23 : lw_okq (⟨"KeptPlansModel", "pinned", "()I"⟩, 12) := ⟨⟨by decide +kernel, by decide +kernel⟩, List.mem_of_getElem? (i := 571) (by decide +kernel), List.mem_of_getElem? (i := 734) (by decide +kernel), List.mem_of_getElem? (i := 735) (by decide +kernel)⟩
theorem lw_p24 : lw_okq (⟨"KeptPlansModel", "wouldAsk", "(III)I"⟩, 12) := ⟨⟨by decide +kernel, by decide +kernel⟩, List.mem_of_getElem? (i := 571) (by decide +kernel), List.mem_of_getElem? (i := 797) (by decide +kernel), List.mem_of_getElem? (i := 798) (by decide +kernel)⟩
theorem lw_p25 : lw_okq (⟨"KeptPlansModel", "keptFor", "(I)I"⟩, 12) := ⟨⟨by decide +kernel, by decide +kernel⟩, List.mem_of_getElem? (i := 571) (by decide +kernel), List.mem_of_getElem? (i := 813) (by decide +kernel), List.mem_of_getElem? (i := 814) (by decide +kernel)⟩
theorem lw_p26 : lw_okq (⟨"KeptPlansModel", "stale", "()I"⟩, 12) := ⟨⟨by decide +kernel, by decide +kernel⟩, List.mem_of_getElem? (i := 571) (by decide +kernel), List.mem_of_getElem? (i := 821) (by decide +kernel), List.mem_of_getElem? (i := 822) (by decide +kernel)⟩
def lw_privs_2 : List (MethodName × Nat) := [(⟨"KeptPlansModel", "reads", "()Z"⟩, 12), (⟨"KeptPlansModel", "word", "()Z"⟩, 12), (⟨"KeptPlansModel", "takes", "(C)Z"⟩, 12), (⟨"KeptPlansModel", "isAt", "(C)Z"⟩, 12), (⟨"KeptPlansModel", "isDigit", "(CC)Z"⟩, 12), (⟨"KeptPlansModel", "does", "()I"⟩, 12), (⟨"KeptPlansModel", "hasPlan", "(I)Z"⟩, 12), (⟨"KeptPlansModel", "pinned", "()I"⟩, 12), (⟨"KeptPlansModel", "wouldAsk", "(III)I"⟩, 12), (⟨"KeptPlansModel", "keptFor", "(I)I"⟩, 12), (⟨"KeptPlansModel", "stale", "()I"⟩, 12)]
theorem lw_r2 : ∀ q ∈ lw_privs_2, lw_okq q := List.forall_mem_cons.mpr ⟨lw_p16, List.forall_mem_cons.mpr ⟨lw_p17, List.forall_mem_cons.mpr ⟨lw_p18, List.forall_mem_cons.mpr ⟨lw_p19, List.forall_mem_cons.mpr ⟨lw_p20, List.forall_mem_cons.mpr ⟨lw_p21, List.forall_mem_cons.mpr ⟨lw_p22, List.forall_mem_cons.mpr ⟨lw_p23, List.forall_mem_cons.mpr ⟨lw_p24, List.forall_mem_cons.mpr ⟨lw_p25, List.forall_mem_cons.mpr ⟨lw_p26, fun _ h => absurd h List.not_mem_nil⟩⟩⟩⟩⟩⟩⟩⟩⟩⟩⟩
def lw_privs : List (MethodName × Nat) := lw_privs_1 ++ (lw_privs_2)
def lw_tbl : List Cond := k2_sels lw_privs ++ tables_1
theorem lw_privs_ok : ∀ q ∈ lw_privs, lw_okq q := by
  show ∀ q ∈ lw_privs_1 ++ (lw_privs_2), lw_okq q
  exact List.forall_mem_append.mpr ⟨lw_r1, lw_r2⟩
end
section
def RX0 : String := "KeptPlans$History"
def TX0 : u_T := fun k => match k with
  | 0 => ("KeptPlans$History", "states", "[LKeptPlans$State;", true)
  | 1 => ("KeptPlans$History", "next", "I", false)
  | _ => ("KeptPlans$History", "size", "I", false)
def tyX0 : Nat → FieldType := fun k => match k with
  | 0 => .array (.object "KeptPlans$State")
  | 1 => .int
  | _ => .int
abbrev wsX00 : List Cond := u_ws RX0 TX0 3
theorem nmX0 : ∀ a, a < 3 → ∀ b, b < 3 → a ≠ b → (TX0 a).2.1 ≠ (TX0 b).2.1 := by decide +kernel
theorem tyX0_ok : ∀ k, k < 3 → parseFieldDescriptor (TX0 k).2.2.1 = some (tyX0 k) := by decide +kernel
abbrev cX0_init : ByteArray := prog_2_method_1_code
def yX0_init : MethodName := ⟨RX0, "<init>", "()V"⟩
abbrev cX0_record : ByteArray := prog_2_method_2_code
def yX0_record : MethodName := ⟨RX0, "record", "(LKeptPlans$State;)V"⟩
abbrev cX0_takeBack : ByteArray := prog_2_method_3_code
def yX0_takeBack : MethodName := ⟨RX0, "takeBack", "(LKeptPlans$State;)V"⟩
def RX1 : String := "KeptPlans$Plan"
def TX1 : u_T := fun k => match k with
  | 0 => ("KeptPlans$Plan", "kept", "Z", false)
  | 1 => ("KeptPlans$Plan", "pinned", "Z", false)
  | 2 => ("KeptPlans$Plan", "way", "I", false)
  | 3 => ("KeptPlans$Plan", "least", "I", false)
  | 4 => ("KeptPlans$Plan", "most", "I", false)
  | 5 => ("KeptPlans$Plan", "number", "I", false)
  | 6 => ("KeptPlans$Plan", "guess", "I", false)
  | 7 => ("KeptPlans$Plan", "rows", "I", false)
  | 8 => ("KeptPlans$Plan", "uses", "I", false)
  | 9 => ("KeptPlans$Plan", "madeAt", "I", false)
  | _ => ("KeptPlans$Plan", "usedAt", "I", false)
def tyX1 : Nat → FieldType := fun k => match k with
  | 0 => .boolean
  | 1 => .boolean
  | 2 => .int
  | 3 => .int
  | 4 => .int
  | 5 => .int
  | 6 => .int
  | 7 => .int
  | 8 => .int
  | 9 => .int
  | _ => .int
abbrev wsX10 : List Cond := u_ws RX1 TX1 11
theorem nmX1 : ∀ a, a < 11 → ∀ b, b < 11 → a ≠ b → (TX1 a).2.1 ≠ (TX1 b).2.1 := by decide +kernel
theorem tyX1_ok : ∀ k, k < 11 → parseFieldDescriptor (TX1 k).2.2.1 = some (tyX1 k) := by decide +kernel
abbrev cX1_init : ByteArray := prog_3_method_1_code
def yX1_init : MethodName := ⟨RX1, "<init>", "()V"⟩
abbrev cX1_copyFrom : ByteArray := prog_3_method_2_code
def yX1_copyFrom : MethodName := ⟨RX1, "copyFrom", "(LKeptPlans$Plan;)V"⟩
def RX2 : String := "KeptPlans$QuestionText"
def TX2 : u_T := fun k => match k with
  | 0 => ("KeptPlans$QuestionText", "signs", "[C", true)
  | 1 => ("KeptPlans$QuestionText", "length", "I", false)
  | 2 => ("KeptPlans$QuestionText", "words", "[I", true)
  | 3 => ("KeptPlans$QuestionText", "tables", "[I", true)
  | 4 => ("KeptPlans$QuestionText", "numbers", "[I", true)
  | 5 => ("KeptPlans$QuestionText", "lines", "I", false)
  | _ => ("KeptPlans$QuestionText", "at", "I", false)
def tyX2 : Nat → FieldType := fun k => match k with
  | 0 => .array .char
  | 1 => .int
  | 2 => .array .int
  | 3 => .array .int
  | 4 => .array .int
  | 5 => .int
  | _ => .int
abbrev wsX20 : List Cond := u_ws RX2 TX2 7
theorem nmX2 : ∀ a, a < 7 → ∀ b, b < 7 → a ≠ b → (TX2 a).2.1 ≠ (TX2 b).2.1 := by decide +kernel
theorem tyX2_ok : ∀ k, k < 7 → parseFieldDescriptor (TX2 k).2.2.1 = some (tyX2 k) := by decide +kernel
abbrev cX2_init : ByteArray := prog_4_method_1_code
def yX2_init : MethodName := ⟨RX2, "<init>", "()V"⟩
abbrev cX2_read : ByteArray := prog_4_method_2_code
def yX2_read : MethodName := ⟨RX2, "read", "()I"⟩
abbrev cX2_readLine : ByteArray := prog_4_method_3_code
def yX2_readLine : MethodName := ⟨RX2, "readLine", "(I)Z"⟩
abbrev cX2_readWord : ByteArray := prog_4_method_4_code
def yX2_readWord : MethodName := ⟨RX2, "readWord", "()I"⟩
abbrev cX2_readKeyOrKeys : ByteArray := prog_4_method_5_code
def yX2_readKeyOrKeys : MethodName := ⟨RX2, "readKeyOrKeys", "()I"⟩
abbrev cX2_readNumber : ByteArray := prog_4_method_6_code
def yX2_readNumber : MethodName := ⟨RX2, "readNumber", "(II)I"⟩
abbrev cX2_pass : ByteArray := prog_4_method_7_code
def yX2_pass : MethodName := ⟨RX2, "pass", "(Ljava/lang/String;)Z"⟩
abbrev cX2_sign : ByteArray := prog_4_method_8_code
def yX2_sign : MethodName := ⟨RX2, "sign", "()I"⟩
abbrev cX2_digit : ByteArray := prog_4_method_9_code
def yX2_digit : MethodName := ⟨RX2, "digit", "()I"⟩
def RX3 : String := "KeptPlans$State"
def TX3 : u_T := fun k => match k with
  | 0 => ("KeptPlans$State", "tables", "[LKeptPlans$Table;", true)
  | 1 => ("KeptPlans$State", "plans", "[LKeptPlans$Plan;", true)
  | 2 => ("KeptPlans$State", "settings", "[I", true)
  | 3 => ("KeptPlans$State", "questions", "I", false)
  | 4 => ("KeptPlans$State", "hits", "I", false)
  | 5 => ("KeptPlans$State", "misses", "I", false)
  | 6 => ("KeptPlans$State", "spent", "I", false)
  | 7 => ("KeptPlans$State", "spentLooking", "I", false)
  | 8 => ("KeptPlans$State", "turnedBad", "I", false)
  | _ => ("KeptPlans$State", "crowdedOut", "I", false)
def tyX3 : Nat → FieldType := fun k => match k with
  | 0 => .array (.object "KeptPlans$Table")
  | 1 => .array (.object "KeptPlans$Plan")
  | 2 => .array .int
  | 3 => .int
  | 4 => .int
  | 5 => .int
  | 6 => .int
  | 7 => .int
  | 8 => .int
  | _ => .int
abbrev wsX30 : List Cond := u_ws RX3 TX3 10
theorem nmX3 : ∀ a, a < 10 → ∀ b, b < 10 → a ≠ b → (TX3 a).2.1 ≠ (TX3 b).2.1 := by decide +kernel
theorem tyX3_ok : ∀ k, k < 10 → parseFieldDescriptor (TX3 k).2.2.1 = some (tyX3 k) := by decide +kernel
abbrev cX3_init : ByteArray := prog_5_method_1_code
def yX3_init : MethodName := ⟨RX3, "<init>", "()V"⟩
abbrev cX3_copyFrom : ByteArray := prog_5_method_2_code
def yX3_copyFrom : MethodName := ⟨RX3, "copyFrom", "(LKeptPlans$State;)V"⟩
abbrev cX3_resize : ByteArray := prog_5_method_3_code
def yX3_resize : MethodName := ⟨RX3, "resize", "(IZI)V"⟩
abbrev cX3_tableUnder : ByteArray := prog_5_method_4_code
def yX3_tableUnder : MethodName := ⟨RX3, "tableUnder", "(I)LKeptPlans$Table;"⟩
abbrev cX3_priceBy : ByteArray := prog_5_method_5_code
def yX3_priceBy : MethodName := ⟨RX3, "priceBy", "(III)I"⟩
abbrev cX3_rowsMet : ByteArray := prog_5_method_6_code
def yX3_rowsMet : MethodName := ⟨RX3, "rowsMet", "(II)I"⟩
abbrev cX3_cheapestWay : ByteArray := prog_5_method_7_code
def yX3_cheapestWay : MethodName := ⟨RX3, "cheapestWay", "(II)I"⟩
abbrev cX3_rowsChangedTooMuch : ByteArray := prog_5_method_8_code
def yX3_rowsChangedTooMuch : MethodName := ⟨RX3, "rowsChangedTooMuch", "(I)Z"⟩
abbrev cX3_isTooOld : ByteArray := prog_5_method_9_code
def yX3_isTooOld : MethodName := ⟨RX3, "isTooOld", "(I)Z"⟩
abbrev cX3_isStale : ByteArray := prog_5_method_10_code
def yX3_isStale : MethodName := ⟨RX3, "isStale", "(I)Z"⟩
abbrev cX3_isTooDear : ByteArray := prog_5_method_11_code
def yX3_isTooDear : MethodName := ⟨RX3, "isTooDear", "(II)Z"⟩
abbrev cX3_whyNotUsed : ByteArray := prog_5_method_12_code
def yX3_whyNotUsed : MethodName := ⟨RX3, "whyNotUsed", "(II)I"⟩
abbrev cX3_answer : ByteArray := prog_5_method_13_code
def yX3_answer : MethodName := ⟨RX3, "answer", "(II)I"⟩
abbrev cX3_answerByPlan : ByteArray := prog_5_method_14_code
def yX3_answerByPlan : MethodName := ⟨RX3, "answerByPlan", "(II)I"⟩
abbrev cX3_answerByLooking : ByteArray := prog_5_method_15_code
def yX3_answerByLooking : MethodName := ⟨RX3, "answerByLooking", "(II)I"⟩
abbrev cX3_place : ByteArray := prog_5_method_16_code
def yX3_place : MethodName := ⟨RX3, "place", "(IIIII)V"⟩
abbrev cX3_couldKeep : ByteArray := prog_5_method_17_code
def yX3_couldKeep : MethodName := ⟨RX3, "couldKeep", "(I)Z"⟩
abbrev cX3_lacksRoomFor : ByteArray := prog_5_method_18_code
def yX3_lacksRoomFor : MethodName := ⟨RX3, "lacksRoomFor", "(I)Z"⟩
abbrev cX3_firstCrowdedOutBy : ByteArray := prog_5_method_19_code
def yX3_firstCrowdedOutBy : MethodName := ⟨RX3, "firstCrowdedOutBy", "(I)I"⟩
abbrev cX3_makeRoomFor : ByteArray := prog_5_method_20_code
def yX3_makeRoomFor : MethodName := ⟨RX3, "makeRoomFor", "(I)V"⟩
abbrev cX3_crowdOutDownTo : ByteArray := prog_5_method_21_code
def yX3_crowdOutDownTo : MethodName := ⟨RX3, "crowdOutDownTo", "(I)V"⟩
abbrev cX3_oldestUnpinned : ByteArray := prog_5_method_22_code
def yX3_oldestUnpinned : MethodName := ⟨RX3, "oldestUnpinned", "()I"⟩
abbrev cX3_keptPlansOf : ByteArray := prog_5_method_23_code
def yX3_keptPlansOf : MethodName := ⟨RX3, "keptPlansOf", "(I)I"⟩
abbrev cX3_keptPlans : ByteArray := prog_5_method_24_code
def yX3_keptPlans : MethodName := ⟨RX3, "keptPlans", "()I"⟩
abbrev cX3_pinnedPlans : ByteArray := prog_5_method_25_code
def yX3_pinnedPlans : MethodName := ⟨RX3, "pinnedPlans", "()I"⟩
abbrev cX3_stalePlans : ByteArray := prog_5_method_26_code
def yX3_stalePlans : MethodName := ⟨RX3, "stalePlans", "()I"⟩
def RX4 : String := "KeptPlans$Table"
def TX4 : u_T := fun k => match k with
  | 0 => ("KeptPlans$Table", "rows", "I", false)
  | 1 => ("KeptPlans$Table", "keys", "I", false)
  | 2 => ("KeptPlans$Table", "questions", "I", false)
  | _ => ("KeptPlans$Table", "spent", "I", false)
def tyX4 : Nat → FieldType := fun k => match k with
  | 0 => .int
  | 1 => .int
  | 2 => .int
  | _ => .int
abbrev wsX40 : List Cond := u_ws RX4 TX4 4
theorem nmX4 : ∀ a, a < 4 → ∀ b, b < 4 → a ≠ b → (TX4 a).2.1 ≠ (TX4 b).2.1 := by decide +kernel
theorem tyX4_ok : ∀ k, k < 4 → parseFieldDescriptor (TX4 k).2.2.1 = some (tyX4 k) := by decide +kernel
abbrev cX4_init : ByteArray := prog_6_method_1_code
def yX4_init : MethodName := ⟨RX4, "<init>", "()V"⟩
abbrev cX4_copyFrom : ByteArray := prog_6_method_2_code
def yX4_copyFrom : MethodName := ⟨RX4, "copyFrom", "(LKeptPlans$Table;)V"⟩
def RX5 : String := "KeptPlans"
def TX5 : u_T := fun k => match k with
  | 0 => ("KeptPlans", "now", "LKeptPlans$State;", true)
  | 1 => ("KeptPlans", "snapshot", "LKeptPlans$State;", true)
  | 2 => ("KeptPlans", "history", "LKeptPlans$History;", true)
  | 3 => ("KeptPlans", "text", "LKeptPlans$QuestionText;", true)
  | _ => ("KeptPlans", "hasSnapshot", "Z", false)
def tyX5 : Nat → FieldType := fun k => match k with
  | 0 => .object "KeptPlans$State"
  | 1 => .object "KeptPlans$State"
  | 2 => .object "KeptPlans$History"
  | 3 => .object "KeptPlans$QuestionText"
  | _ => .boolean
abbrev wsX50 : List Cond := u_ws RX5 TX5 5
theorem nmX5 : ∀ a, a < 5 → ∀ b, b < 5 → a ≠ b → (TX5 a).2.1 ≠ (TX5 b).2.1 := by decide +kernel
theorem tyX5_ok : ∀ k, k < 5 → parseFieldDescriptor (TX5 k).2.2.1 = some (tyX5 k) := by decide +kernel
abbrev cX5_init : ByteArray := prog_1_method_1_code
def yX5_init : MethodName := ⟨RX5, "<init>", "()V"⟩
abbrev cX5_table : ByteArray := prog_1_method_2_code
def yX5_table : MethodName := ⟨RX5, "table", "(IZI)I"⟩
abbrev cX5_ask : ByteArray := prog_1_method_3_code
def yX5_ask : MethodName := ⟨RX5, "ask", "(II)I"⟩
abbrev cX5_askAll : ByteArray := prog_1_method_4_code
def yX5_askAll : MethodName := ⟨RX5, "askAll", "()I"⟩
abbrev cX5_pin : ByteArray := prog_1_method_5_code
def yX5_pin : MethodName := ⟨RX5, "pin", "(IZ)I"⟩
abbrev cX5_throwOut : ByteArray := prog_1_method_6_code
def yX5_throwOut : MethodName := ⟨RX5, "throwOut", "(I)I"⟩
abbrev cX5_make : ByteArray := prog_1_method_7_code
def yX5_make : MethodName := ⟨RX5, "make", "(IIIII)I"⟩
abbrev cX5_set : ByteArray := prog_1_method_8_code
def yX5_set : MethodName := ⟨RX5, "set", "(II)I"⟩
abbrev cX5_type : ByteArray := prog_1_method_9_code
def yX5_type : MethodName := ⟨RX5, "type", "(C)I"⟩
abbrev cX5_clearText : ByteArray := prog_1_method_10_code
def yX5_clearText : MethodName := ⟨RX5, "clearText", "()I"⟩
abbrev cX5_undo : ByteArray := prog_1_method_11_code
def yX5_undo : MethodName := ⟨RX5, "undo", "()I"⟩
abbrev cX5_keep : ByteArray := prog_1_method_12_code
def yX5_keep : MethodName := ⟨RX5, "keep", "()I"⟩
abbrev cX5_restore : ByteArray := prog_1_method_13_code
def yX5_restore : MethodName := ⟨RX5, "restore", "()I"⟩
abbrev cX5_cost : ByteArray := prog_1_method_14_code
def yX5_cost : MethodName := ⟨RX5, "cost", "(III)I"⟩
abbrev cX5_cheapest : ByteArray := prog_1_method_15_code
def yX5_cheapest : MethodName := ⟨RX5, "cheapest", "(II)I"⟩
abbrev cX5_plan : ByteArray := prog_1_method_16_code
def yX5_plan : MethodName := ⟨RX5, "plan", "(II)I"⟩
abbrev cX5_reason : ByteArray := prog_1_method_17_code
def yX5_reason : MethodName := ⟨RX5, "reason", "(II)I"⟩
abbrev cX5_ifAsked : ByteArray := prog_1_method_18_code
def yX5_ifAsked : MethodName := ⟨RX5, "ifAsked", "(III)I"⟩
abbrev cX5_reach : ByteArray := prog_1_method_19_code
def yX5_reach : MethodName := ⟨RX5, "reach", "(II)I"⟩
abbrev cX5_oldest : ByteArray := prog_1_method_20_code
def yX5_oldest : MethodName := ⟨RX5, "oldest", "()I"⟩
abbrev cX5_tableOf : ByteArray := prog_1_method_21_code
def yX5_tableOf : MethodName := ⟨RX5, "tableOf", "(II)I"⟩
abbrev cX5_count : ByteArray := prog_1_method_22_code
def yX5_count : MethodName := ⟨RX5, "count", "(I)I"⟩
abbrev cX5_isTable : ByteArray := prog_1_method_23_code
def yX5_isTable : MethodName := ⟨RX5, "isTable", "(I)Z"⟩
abbrev cX5_isShape : ByteArray := prog_1_method_24_code
def yX5_isShape : MethodName := ⟨RX5, "isShape", "(I)Z"⟩
abbrev cX5_isWay : ByteArray := prog_1_method_25_code
def yX5_isWay : MethodName := ⟨RX5, "isWay", "(I)Z"⟩
abbrev cX5_hasPlan : ByteArray := prog_1_method_26_code
def yX5_hasPlan : MethodName := ⟨RX5, "hasPlan", "(I)Z"⟩
abbrev cX5_leastNumberOf : ByteArray := prog_1_method_27_code
def yX5_leastNumberOf : MethodName := ⟨RX5, "leastNumberOf", "(I)I"⟩
abbrev cX5_isNumberOf : ByteArray := prog_1_method_28_code
def yX5_isNumberOf : MethodName := ⟨RX5, "isNumberOf", "(II)Z"⟩
abbrev cX5_bitsOf : ByteArray := prog_1_method_29_code
def yX5_bitsOf : MethodName := ⟨RX5, "bitsOf", "(I)I"⟩
abbrev cX5_quotient : ByteArray := prog_1_method_30_code
def yX5_quotient : MethodName := ⟨RX5, "quotient", "(II)I"⟩
def RX6 : String := "KeptPlansModel"
def TX6 : u_T := fun k => match k with
  | 0 => ("KeptPlansModel", "s", "[I", true)
  | 1 => ("KeptPlansModel", "states", "I", false)
  | 2 => ("KeptPlansModel", "isKept", "Z", false)
  | 3 => ("KeptPlansModel", "text", "[C", true)
  | 4 => ("KeptPlansModel", "typed", "I", false)
  | 5 => ("KeptPlansModel", "at", "I", false)
  | 6 => ("KeptPlansModel", "order", "I", false)
  | 7 => ("KeptPlansModel", "table", "I", false)
  | 8 => ("KeptPlansModel", "number", "I", false)
  | 9 => ("KeptPlansModel", "way", "I", false)
  | 10 => ("KeptPlansModel", "isBad", "Z", false)
  | _ => ("KeptPlansModel", "gone", "I", false)
def tyX6 : Nat → FieldType := fun k => match k with
  | 0 => .array .int
  | 1 => .int
  | 2 => .boolean
  | 3 => .array .char
  | 4 => .int
  | 5 => .int
  | 6 => .int
  | 7 => .int
  | 8 => .int
  | 9 => .int
  | 10 => .boolean
  | _ => .int
abbrev wsX60 : List Cond := u_ws RX6 TX6 12
theorem nmX6 : ∀ a, a < 12 → ∀ b, b < 12 → a ≠ b → (TX6 a).2.1 ≠ (TX6 b).2.1 := by decide +kernel
theorem tyX6_ok : ∀ k, k < 12 → parseFieldDescriptor (TX6 k).2.2.1 = some (tyX6 k) := by decide +kernel
abbrev cX6_init : ByteArray := prog_8_method_1_code
def yX6_init : MethodName := ⟨RX6, "<init>", "()V"⟩
abbrev cX6_in : ByteArray := prog_8_method_2_code
def yX6_in : MethodName := ⟨RX6, "in", "(III)Z"⟩
abbrev cX6_isShape : ByteArray := prog_8_method_3_code
def yX6_isShape : MethodName := ⟨RX6, "isShape", "(I)Z"⟩
abbrev cX6_isNumber : ByteArray := prog_8_method_4_code
def yX6_isNumber : MethodName := ⟨RX6, "isNumber", "(II)Z"⟩
abbrev cX6_planAt : ByteArray := prog_8_method_5_code
def yX6_planAt : MethodName := ⟨RX6, "planAt", "(II)I"⟩
abbrev cX6_copies : ByteArray := prog_8_method_6_code
def yX6_copies : MethodName := ⟨RX6, "copies", "(II)V"⟩
abbrev cX6_records : ByteArray := prog_8_method_7_code
def yX6_records : MethodName := ⟨RX6, "records", "()V"⟩
abbrev cX6_bits : ByteArray := prog_8_method_8_code
def yX6_bits : MethodName := ⟨RX6, "bits", "(I)I"⟩
abbrev cX6_costs : ByteArray := prog_8_method_9_code
def yX6_costs : MethodName := ⟨RX6, "costs", "(IIII)I"⟩
abbrev cX6_cheapestOf : ByteArray := prog_8_method_10_code
def yX6_cheapestOf : MethodName := ⟨RX6, "cheapestOf", "(III)I"⟩
abbrev cX6_kept : ByteArray := prog_8_method_11_code
def yX6_kept : MethodName := ⟨RX6, "kept", "(I)I"⟩
abbrev cX6_isChanged : ByteArray := prog_8_method_12_code
def yX6_isChanged : MethodName := ⟨RX6, "isChanged", "(II)Z"⟩
abbrev cX6_age : ByteArray := prog_8_method_13_code
def yX6_age : MethodName := ⟨RX6, "age", "(II)I"⟩
abbrev cX6_isOld : ByteArray := prog_8_method_14_code
def yX6_isOld : MethodName := ⟨RX6, "isOld", "(II)Z"⟩
abbrev cX6_why : ByteArray := prog_8_method_15_code
def yX6_why : MethodName := ⟨RX6, "why", "(III)I"⟩
abbrev cX6_oldestOf : ByteArray := prog_8_method_16_code
def yX6_oldestOf : MethodName := ⟨RX6, "oldestOf", "(I)I"⟩
abbrev cX6_throwsOldest : ByteArray := prog_8_method_17_code
def yX6_throwsOldest : MethodName := ⟨RX6, "throwsOldest", "(I)V"⟩
abbrev cX6_hasRoom : ByteArray := prog_8_method_18_code
def yX6_hasRoom : MethodName := ⟨RX6, "hasRoom", "(II)Z"⟩
abbrev cX6_lays : ByteArray := prog_8_method_19_code
def yX6_lays : MethodName := ⟨RX6, "lays", "(IIIIII)V"⟩
abbrev cX6_asks : ByteArray := prog_8_method_20_code
def yX6_asks : MethodName := ⟨RX6, "asks", "(III)I"⟩
abbrev cX6_table : ByteArray := prog_8_method_21_code
def yX6_table : MethodName := ⟨RX6, "table", "(IZI)I"⟩
abbrev cX6_ask : ByteArray := prog_8_method_22_code
def yX6_ask : MethodName := ⟨RX6, "ask", "(II)I"⟩
abbrev cX6_isAt : ByteArray := prog_8_method_23_code
def yX6_isAt : MethodName := ⟨RX6, "isAt", "(C)Z"⟩
abbrev cX6_takes : ByteArray := prog_8_method_24_code
def yX6_takes : MethodName := ⟨RX6, "takes", "(C)Z"⟩
abbrev cX6_isDigit : ByteArray := prog_8_method_25_code
def yX6_isDigit : MethodName := ⟨RX6, "isDigit", "(CC)Z"⟩
abbrev cX6_word : ByteArray := prog_8_method_26_code
def yX6_word : MethodName := ⟨RX6, "word", "()Z"⟩
abbrev cX6_reads : ByteArray := prog_8_method_27_code
def yX6_reads : MethodName := ⟨RX6, "reads", "()Z"⟩
abbrev cX6_does : ByteArray := prog_8_method_28_code
def yX6_does : MethodName := ⟨RX6, "does", "()I"⟩
abbrev cX6_goes : ByteArray := prog_8_method_29_code
def yX6_goes : MethodName := ⟨RX6, "goes", "(Z)I"⟩
abbrev cX6_askAll : ByteArray := prog_8_method_30_code
def yX6_askAll : MethodName := ⟨RX6, "askAll", "()I"⟩
abbrev cX6_hasPlan : ByteArray := prog_8_method_31_code
def yX6_hasPlan : MethodName := ⟨RX6, "hasPlan", "(I)Z"⟩
abbrev cX6_pinned : ByteArray := prog_8_method_32_code
def yX6_pinned : MethodName := ⟨RX6, "pinned", "()I"⟩
abbrev cX6_pin : ByteArray := prog_8_method_33_code
def yX6_pin : MethodName := ⟨RX6, "pin", "(IZ)I"⟩
abbrev cX6_throwOut : ByteArray := prog_8_method_34_code
def yX6_throwOut : MethodName := ⟨RX6, "throwOut", "(I)I"⟩
abbrev cX6_make : ByteArray := prog_8_method_35_code
def yX6_make : MethodName := ⟨RX6, "make", "(IIIII)I"⟩
abbrev cX6_lowest : ByteArray := prog_8_method_36_code
def yX6_lowest : MethodName := ⟨RX6, "lowest", "(I)I"⟩
abbrev cX6_highest : ByteArray := prog_8_method_37_code
def yX6_highest : MethodName := ⟨RX6, "highest", "(I)I"⟩
abbrev cX6_set : ByteArray := prog_8_method_38_code
def yX6_set : MethodName := ⟨RX6, "set", "(II)I"⟩
abbrev cX6_type : ByteArray := prog_8_method_39_code
def yX6_type : MethodName := ⟨RX6, "type", "(C)I"⟩
abbrev cX6_clearText : ByteArray := prog_8_method_40_code
def yX6_clearText : MethodName := ⟨RX6, "clearText", "()I"⟩
abbrev cX6_undo : ByteArray := prog_8_method_41_code
def yX6_undo : MethodName := ⟨RX6, "undo", "()I"⟩
abbrev cX6_keep : ByteArray := prog_8_method_42_code
def yX6_keep : MethodName := ⟨RX6, "keep", "()I"⟩
abbrev cX6_restore : ByteArray := prog_8_method_43_code
def yX6_restore : MethodName := ⟨RX6, "restore", "()I"⟩
abbrev cX6_cost : ByteArray := prog_8_method_44_code
def yX6_cost : MethodName := ⟨RX6, "cost", "(III)I"⟩
abbrev cX6_cheapest : ByteArray := prog_8_method_45_code
def yX6_cheapest : MethodName := ⟨RX6, "cheapest", "(II)I"⟩
abbrev cX6_plan : ByteArray := prog_8_method_46_code
def yX6_plan : MethodName := ⟨RX6, "plan", "(II)I"⟩
abbrev cX6_reason : ByteArray := prog_8_method_47_code
def yX6_reason : MethodName := ⟨RX6, "reason", "(II)I"⟩
abbrev cX6_wouldAsk : ByteArray := prog_8_method_48_code
def yX6_wouldAsk : MethodName := ⟨RX6, "wouldAsk", "(III)I"⟩
abbrev cX6_ifAsked : ByteArray := prog_8_method_49_code
def yX6_ifAsked : MethodName := ⟨RX6, "ifAsked", "(III)I"⟩
abbrev cX6_reach : ByteArray := prog_8_method_50_code
def yX6_reach : MethodName := ⟨RX6, "reach", "(II)I"⟩
abbrev cX6_oldest : ByteArray := prog_8_method_51_code
def yX6_oldest : MethodName := ⟨RX6, "oldest", "()I"⟩
abbrev cX6_keptFor : ByteArray := prog_8_method_52_code
def yX6_keptFor : MethodName := ⟨RX6, "keptFor", "(I)I"⟩
abbrev cX6_tableOf : ByteArray := prog_8_method_53_code
def yX6_tableOf : MethodName := ⟨RX6, "tableOf", "(II)I"⟩
abbrev cX6_stale : ByteArray := prog_8_method_54_code
def yX6_stale : MethodName := ⟨RX6, "stale", "()I"⟩
abbrev cX6_count : ByteArray := prog_8_method_55_code
def yX6_count : MethodName := ⟨RX6, "count", "(I)I"⟩
def RJ9 : String := "java/lang/Math"
def TJ9 : u_T := fun k => match k with
  | _ => ("", "", "", false)
def tyJ9 : Nat → FieldType := fun k => match k with
  | _ => .int
abbrev wsJ90 : List Cond := u_ws RJ9 TJ9 0
theorem nmJ9 : ∀ a, a < 0 → ∀ b, b < 0 → a ≠ b → (TJ9 a).2.1 ≠ (TJ9 b).2.1 := by decide +kernel
theorem tyJ9_ok : ∀ k, k < 0 → parseFieldDescriptor (TJ9 k).2.2.1 = some (tyJ9 k) := by decide +kernel
abbrev cJ9_abs_0f7a4 : ByteArray := prog_9_method_59_code
def yJ9_abs_0f7a4 : MethodName := ⟨RJ9, "abs", "(I)I"⟩
abbrev cJ9_min_7cf53 : ByteArray := prog_9_method_69_code
def yJ9_min_7cf53 : MethodName := ⟨RJ9, "min", "(II)I"⟩
def RJ0 : String := "java/lang/String"
def TJ0 : u_T := fun k => match k with
  | _ => ("", "", "", false)
def tyJ0 : Nat → FieldType := fun k => match k with
  | _ => .int
abbrev wsJ00 : List Cond := u_ws RJ0 TJ0 0
theorem nmJ0 : ∀ a, a < 0 → ∀ b, b < 0 → a ≠ b → (TJ0 a).2.1 ≠ (TJ0 b).2.1 := by decide +kernel
theorem tyJ0_ok : ∀ k, k < 0 → parseFieldDescriptor (TJ0 k).2.2.1 = some (tyJ0 k) := by decide +kernel
abbrev cJ0_length_8abf5 : ByteArray := prog_10_method_54_code
def yJ0_length_8abf5 : MethodName := ⟨RJ0, "length", "()I"⟩
abbrev cJ0_charAt_5068e : ByteArray := prog_10_method_56_code
def yJ0_charAt_5068e : MethodName := ⟨RJ0, "charAt", "(I)C"⟩
abbrev cJ0_coder_7d493 : ByteArray := prog_10_method_152_code
def yJ0_coder_7d493 : MethodName := ⟨RJ0, "coder", "()B"⟩
abbrev cJ0_isLatin1_aae02 : ByteArray := prog_10_method_154_code
def yJ0_isLatin1_aae02 : MethodName := ⟨RJ0, "isLatin1", "()Z"⟩
abbrev cJ0_checkIndex_df160 : ByteArray := prog_10_method_155_code
def yJ0_checkIndex_df160 : MethodName := ⟨RJ0, "checkIndex", "(II)V"⟩
def RJ1 : String := "java/lang/StringLatin1"
def TJ1 : u_T := fun k => match k with
  | _ => ("", "", "", false)
def tyJ1 : Nat → FieldType := fun k => match k with
  | _ => .int
abbrev wsJ10 : List Cond := u_ws RJ1 TJ1 0
theorem nmJ1 : ∀ a, a < 0 → ∀ b, b < 0 → a ≠ b → (TJ1 a).2.1 ≠ (TJ1 b).2.1 := by decide +kernel
theorem tyJ1_ok : ∀ k, k < 0 → parseFieldDescriptor (TJ1 k).2.2.1 = some (tyJ1 k) := by decide +kernel
abbrev cJ1_charAt_3b067 : ByteArray := prog_11_method_2_code
def yJ1_charAt_3b067 : MethodName := ⟨RJ1, "charAt", "([BI)C"⟩
def RJ2 : String := "java/lang/StringUTF16"
def TJ2 : u_T := fun k => match k with
  | _ => ("", "", "", false)
def tyJ2 : Nat → FieldType := fun k => match k with
  | _ => .int
abbrev wsJ20 : List Cond := u_ws RJ2 TJ2 0
theorem nmJ2 : ∀ a, a < 0 → ∀ b, b < 0 → a ≠ b → (TJ2 a).2.1 ≠ (TJ2 b).2.1 := by decide +kernel
theorem tyJ2_ok : ∀ k, k < 0 → parseFieldDescriptor (TJ2 k).2.2.1 = some (tyJ2 k) := by decide +kernel
abbrev cJ2_getChar_3b067 : ByteArray := prog_12_method_5_code
def yJ2_getChar_3b067 : MethodName := ⟨RJ2, "getChar", "([BI)C"⟩
abbrev cJ2_length_9d52b : ByteArray := prog_12_method_6_code
def yJ2_length_9d52b : MethodName := ⟨RJ2, "length", "([B)I"⟩
abbrev cJ2_charAt_3b067 : ByteArray := prog_12_method_83_code
def yJ2_charAt_3b067 : MethodName := ⟨RJ2, "charAt", "([BI)C"⟩
abbrev cJ2_checkIndex_2214a : ByteArray := prog_12_method_91_code
def yJ2_checkIndex_2214a : MethodName := ⟨RJ2, "checkIndex", "(I[B)V"⟩
def RJ3 : String := "jdk/internal/util/Preconditions"
def TJ3 : u_T := fun k => match k with
  | _ => ("", "", "", false)
def tyJ3 : Nat → FieldType := fun k => match k with
  | _ => .int
abbrev wsJ30 : List Cond := u_ws RJ3 TJ3 0
theorem nmJ3 : ∀ a, a < 0 → ∀ b, b < 0 → a ≠ b → (TJ3 a).2.1 ≠ (TJ3 b).2.1 := by decide +kernel
theorem tyJ3_ok : ∀ k, k < 0 → parseFieldDescriptor (TJ3 k).2.2.1 = some (tyJ3 k) := by decide +kernel
abbrev cJ3_checkIndex_8e157 : ByteArray := prog_13_method_11_code
def yJ3_checkIndex_8e157 : MethodName := ⟨RJ3, "checkIndex", "(IILjava/util/function/BiFunction;)I"⟩
def RL : String := "KeptPlansLaw"
abbrev cL_law : ByteArray := code
def yL_law : MethodName := ⟨RL, "law", "([I)Z"⟩
abbrev vwCl : List vw_C := [(RX0, TX0, 3), (RX1, TX1, 11), (RX2, TX2, 7), (RX3, TX3, 10), (RX4, TX4, 4), (RX5, TX5, 5), (RX6, TX6, 12)]
def GW : List Cond := lw_tbl.filter goodWord
theorem gw_good : ∀ w ∈ GW, goodWord w = true := fun _ h => (List.mem_filter.mp h).2
theorem gw_t {w : Cond} (h : w ∈ tables_1) (g : goodWord w = true) : w ∈ GW := List.mem_filter.mpr ⟨List.mem_append_right _ h, g⟩
set_option maxRecDepth 100000 in
theorem q_0 : (.initialized RL) ∈ GW := gw_t (List.mem_of_getElem? (i := 0) (by decide +kernel)) rfl
set_option maxRecDepth 100000 in
theorem q_1 : (.initialized RX5) ∈ GW := gw_t (List.mem_of_getElem? (i := 1) (by decide +kernel)) rfl
set_option maxRecDepth 100000 in
theorem q_2 : (.initialized RX3) ∈ GW := gw_t (List.mem_of_getElem? (i := 2) (by decide +kernel)) rfl
set_option maxRecDepth 100000 in
theorem q_3 : (.initialized RX4) ∈ GW := gw_t (List.mem_of_getElem? (i := 3) (by decide +kernel)) rfl
set_option maxRecDepth 100000 in
theorem q_4 : (.initialized RX1) ∈ GW := gw_t (List.mem_of_getElem? (i := 4) (by decide +kernel)) rfl
set_option maxRecDepth 100000 in
theorem q_5 : (.initialized RX0) ∈ GW := gw_t (List.mem_of_getElem? (i := 5) (by decide +kernel)) rfl
set_option maxRecDepth 100000 in
theorem q_6 : (.initialized RX2) ∈ GW := gw_t (List.mem_of_getElem? (i := 6) (by decide +kernel)) rfl
set_option maxRecDepth 100000 in
theorem q_7 : (.initialized RX6) ∈ GW := gw_t (List.mem_of_getElem? (i := 7) (by decide +kernel)) rfl
set_option maxRecDepth 100000 in
theorem q_8 : (.initialized RJ9) ∈ GW := gw_t (List.mem_of_getElem? (i := 8) (by decide +kernel)) rfl
set_option maxRecDepth 100000 in
theorem q_9 : (.initialized RJ0) ∈ GW := gw_t (List.mem_of_getElem? (i := 9) (by decide +kernel)) rfl
set_option maxRecDepth 100000 in
theorem q_10 : (.initialized RJ1) ∈ GW := gw_t (List.mem_of_getElem? (i := 10) (by decide +kernel)) rfl
set_option maxRecDepth 100000 in
theorem q_11 : (.initialized RJ3) ∈ GW := gw_t (List.mem_of_getElem? (i := 11) (by decide +kernel)) rfl
set_option maxRecDepth 100000 in
theorem q_12 : (.initialized RJ2) ∈ GW := gw_t (List.mem_of_getElem? (i := 12) (by decide +kernel)) rfl
set_option maxRecDepth 100000 in
theorem q_13 : (.classLink RL 7 "KeptPlans") ∈ GW := gw_t (List.mem_of_getElem? (i := 13) (by decide +kernel)) rfl
set_option maxRecDepth 100000 in
theorem q_14 : (.instantiable RX5 5) ∈ GW := gw_t (List.mem_of_getElem? (i := 14) (by decide +kernel)) rfl
set_option maxRecDepth 100000 in
theorem q_15 : (.methodLink RL 9 yX5_init) ∈ GW := gw_t (List.mem_of_getElem? (i := 15) (by decide +kernel)) rfl
set_option maxRecDepth 100000 in
theorem q_16 : (.instanceMethod yX5_init) ∈ GW := gw_t (List.mem_of_getElem? (i := 16) (by decide +kernel)) rfl
set_option maxRecDepth 100000 in
theorem q_17 : (.code yX5_init cX5_init 1 none) ∈ GW := gw_t (List.mem_of_getElem? (i := 17) (by decide +kernel)) rfl
set_option maxRecDepth 100000 in
theorem q_18 : (.methodLink RX5 1 objectInit) ∈ GW := gw_t (List.mem_of_getElem? (i := 18) (by decide +kernel)) rfl
set_option maxRecDepth 100000 in
theorem q_19 : (.instanceMethod objectInit) ∈ GW := gw_t (List.mem_of_getElem? (i := 19) (by decide +kernel)) rfl
set_option maxRecDepth 100000 in
theorem q_20 : (.code objectInit object_method_1_code 1 none) ∈ GW := gw_t (List.mem_of_getElem? (i := 20) (by decide +kernel)) rfl
set_option maxRecDepth 100000 in
theorem q_21 : (.classLink RX5 7 "KeptPlans$State") ∈ GW := gw_t (List.mem_of_getElem? (i := 21) (by decide +kernel)) rfl
set_option maxRecDepth 100000 in
theorem q_22 : (.instantiable RX3 10) ∈ GW := gw_t (List.mem_of_getElem? (i := 22) (by decide +kernel)) rfl
set_option maxRecDepth 100000 in
theorem q_23 : (.methodLink RX5 9 yX3_init) ∈ GW := gw_t (List.mem_of_getElem? (i := 23) (by decide +kernel)) rfl
set_option maxRecDepth 100000 in
theorem q_24 : (.instanceMethod yX3_init) ∈ GW := gw_t (List.mem_of_getElem? (i := 24) (by decide +kernel)) rfl
set_option maxRecDepth 100000 in
theorem q_25 : (.code yX3_init cX3_init 2 none) ∈ GW := gw_t (List.mem_of_getElem? (i := 25) (by decide +kernel)) rfl
set_option maxRecDepth 100000 in
theorem q_26 : (.methodLink RX3 3 objectInit) ∈ GW := gw_t (List.mem_of_getElem? (i := 26) (by decide +kernel)) rfl
set_option maxRecDepth 100000 in
theorem q_27 : (.classLink RX3 9 "KeptPlans$Table") ∈ GW := gw_t (List.mem_of_getElem? (i := 27) (by decide +kernel)) rfl
set_option maxRecDepth 100000 in
theorem q_29 : (.classLink RX3 17 "KeptPlans$Plan") ∈ GW := gw_t (List.mem_of_getElem? (i := 29) (by decide +kernel)) rfl
set_option maxRecDepth 100000 in
theorem q_31 : (.instantiable RX4 4) ∈ GW := gw_t (List.mem_of_getElem? (i := 31) (by decide +kernel)) rfl
set_option maxRecDepth 100000 in
theorem q_32 : (.methodLink RX3 27 yX4_init) ∈ GW := gw_t (List.mem_of_getElem? (i := 32) (by decide +kernel)) rfl
set_option maxRecDepth 100000 in
theorem q_33 : (.instanceMethod yX4_init) ∈ GW := gw_t (List.mem_of_getElem? (i := 33) (by decide +kernel)) rfl
set_option maxRecDepth 100000 in
theorem q_34 : (.code yX4_init cX4_init 1 none) ∈ GW := gw_t (List.mem_of_getElem? (i := 34) (by decide +kernel)) rfl
set_option maxRecDepth 100000 in
theorem q_35 : (.methodLink RX4 1 objectInit) ∈ GW := gw_t (List.mem_of_getElem? (i := 35) (by decide +kernel)) rfl
set_option maxRecDepth 100000 in
theorem q_36 : (.fieldLink RX4 7 "KeptPlans$Table" "rows" "I") ∈ GW := gw_t (List.mem_of_getElem? (i := 36) (by decide +kernel)) rfl
set_option maxRecDepth 100000 in
theorem q_37 : (.fieldLink RX5 51 "KeptPlans$Table" "rows" "I") ∈ GW := gw_t (List.mem_of_getElem? (i := 37) (by decide +kernel)) rfl
set_option maxRecDepth 100000 in
theorem q_38 : (.fieldLink RX3 61 "KeptPlans$Table" "rows" "I") ∈ GW := gw_t (List.mem_of_getElem? (i := 38) (by decide +kernel)) rfl
set_option maxRecDepth 100000 in
theorem q_39 : (.fieldLink RX4 13 "KeptPlans$Table" "keys" "I") ∈ GW := gw_t (List.mem_of_getElem? (i := 39) (by decide +kernel)) rfl
set_option maxRecDepth 100000 in
theorem q_40 : (.fieldLink RX5 45 "KeptPlans$Table" "keys" "I") ∈ GW := gw_t (List.mem_of_getElem? (i := 40) (by decide +kernel)) rfl
set_option maxRecDepth 100000 in
theorem q_41 : (.fieldLink RX3 58 "KeptPlans$Table" "keys" "I") ∈ GW := gw_t (List.mem_of_getElem? (i := 41) (by decide +kernel)) rfl
set_option maxRecDepth 100000 in
theorem q_42 : (.fieldLink RX4 16 "KeptPlans$Table" "questions" "I") ∈ GW := gw_t (List.mem_of_getElem? (i := 42) (by decide +kernel)) rfl
set_option maxRecDepth 100000 in
theorem q_43 : (.fieldLink RX3 125 "KeptPlans$Table" "questions" "I") ∈ GW := gw_t (List.mem_of_getElem? (i := 43) (by decide +kernel)) rfl
set_option maxRecDepth 100000 in
theorem q_44 : (.fieldLink RX5 210 "KeptPlans$Table" "questions" "I") ∈ GW := gw_t (List.mem_of_getElem? (i := 44) (by decide +kernel)) rfl
set_option maxRecDepth 100000 in
theorem q_45 : (.fieldLink RX4 19 "KeptPlans$Table" "spent" "I") ∈ GW := gw_t (List.mem_of_getElem? (i := 45) (by decide +kernel)) rfl
set_option maxRecDepth 100000 in
theorem q_46 : (.fieldLink RX3 126 "KeptPlans$Table" "spent" "I") ∈ GW := gw_t (List.mem_of_getElem? (i := 46) (by decide +kernel)) rfl
set_option maxRecDepth 100000 in
theorem q_47 : (.fieldLink RX5 211 "KeptPlans$Table" "spent" "I") ∈ GW := gw_t (List.mem_of_getElem? (i := 47) (by decide +kernel)) rfl
set_option maxRecDepth 100000 in
theorem q_57 : (.arrayClass .int) ∈ GW := gw_t (List.mem_of_getElem? (i := 57) (by decide +kernel)) rfl
set_option maxRecDepth 100000 in
theorem q_58 : (.instantiable RX1 11) ∈ GW := gw_t (List.mem_of_getElem? (i := 58) (by decide +kernel)) rfl
set_option maxRecDepth 100000 in
theorem q_60 : (.instanceMethod yX1_init) ∈ GW := gw_t (List.mem_of_getElem? (i := 60) (by decide +kernel)) rfl
set_option maxRecDepth 100000 in
theorem q_61 : (.code yX1_init cX1_init 1 none) ∈ GW := gw_t (List.mem_of_getElem? (i := 61) (by decide +kernel)) rfl
set_option maxRecDepth 100000 in
theorem q_62 : (.methodLink RX1 1 objectInit) ∈ GW := gw_t (List.mem_of_getElem? (i := 62) (by decide +kernel)) rfl
set_option maxRecDepth 100000 in
theorem q_63 : (.fieldLink RX1 7 "KeptPlans$Plan" "kept" "Z") ∈ GW := gw_t (List.mem_of_getElem? (i := 63) (by decide +kernel)) rfl
set_option maxRecDepth 100000 in
theorem q_64 : (.fieldLink RX5 104 "KeptPlans$Plan" "kept" "Z") ∈ GW := gw_t (List.mem_of_getElem? (i := 64) (by decide +kernel)) rfl
set_option maxRecDepth 100000 in
theorem q_65 : (.fieldLink RX3 106 "KeptPlans$Plan" "kept" "Z") ∈ GW := gw_t (List.mem_of_getElem? (i := 65) (by decide +kernel)) rfl
set_option maxRecDepth 100000 in
theorem q_66 : (.fieldLink RX1 13 "KeptPlans$Plan" "pinned" "Z") ∈ GW := gw_t (List.mem_of_getElem? (i := 66) (by decide +kernel)) rfl
set_option maxRecDepth 100000 in
theorem q_67 : (.fieldLink RX5 96 "KeptPlans$Plan" "pinned" "Z") ∈ GW := gw_t (List.mem_of_getElem? (i := 67) (by decide +kernel)) rfl
set_option maxRecDepth 100000 in
theorem q_68 : (.fieldLink RX3 154 "KeptPlans$Plan" "pinned" "Z") ∈ GW := gw_t (List.mem_of_getElem? (i := 68) (by decide +kernel)) rfl
set_option maxRecDepth 100000 in
theorem q_69 : (.fieldLink RX1 16 "KeptPlans$Plan" "way" "I") ∈ GW := gw_t (List.mem_of_getElem? (i := 69) (by decide +kernel)) rfl
set_option maxRecDepth 100000 in
theorem q_70 : (.fieldLink RX3 127 "KeptPlans$Plan" "way" "I") ∈ GW := gw_t (List.mem_of_getElem? (i := 70) (by decide +kernel)) rfl
set_option maxRecDepth 100000 in
theorem q_71 : (.fieldLink RX5 160 "KeptPlans$Plan" "way" "I") ∈ GW := gw_t (List.mem_of_getElem? (i := 71) (by decide +kernel)) rfl
set_option maxRecDepth 100000 in
theorem q_72 : (.fieldLink RX1 20 "KeptPlans$Plan" "least" "I") ∈ GW := gw_t (List.mem_of_getElem? (i := 72) (by decide +kernel)) rfl
set_option maxRecDepth 100000 in
theorem q_73 : (.fieldLink RX3 110 "KeptPlans$Plan" "least" "I") ∈ GW := gw_t (List.mem_of_getElem? (i := 73) (by decide +kernel)) rfl
set_option maxRecDepth 100000 in
theorem q_74 : (.fieldLink RX5 163 "KeptPlans$Plan" "least" "I") ∈ GW := gw_t (List.mem_of_getElem? (i := 74) (by decide +kernel)) rfl
set_option maxRecDepth 100000 in
theorem q_75 : (.fieldLink RX1 23 "KeptPlans$Plan" "most" "I") ∈ GW := gw_t (List.mem_of_getElem? (i := 75) (by decide +kernel)) rfl
set_option maxRecDepth 100000 in
theorem q_76 : (.fieldLink RX3 113 "KeptPlans$Plan" "most" "I") ∈ GW := gw_t (List.mem_of_getElem? (i := 76) (by decide +kernel)) rfl
set_option maxRecDepth 100000 in
theorem q_77 : (.fieldLink RX5 166 "KeptPlans$Plan" "most" "I") ∈ GW := gw_t (List.mem_of_getElem? (i := 77) (by decide +kernel)) rfl
set_option maxRecDepth 100000 in
theorem q_78 : (.fieldLink RX1 26 "KeptPlans$Plan" "number" "I") ∈ GW := gw_t (List.mem_of_getElem? (i := 78) (by decide +kernel)) rfl
set_option maxRecDepth 100000 in
theorem q_79 : (.fieldLink RX3 157 "KeptPlans$Plan" "number" "I") ∈ GW := gw_t (List.mem_of_getElem? (i := 79) (by decide +kernel)) rfl
set_option maxRecDepth 100000 in
theorem q_80 : (.fieldLink RX5 169 "KeptPlans$Plan" "number" "I") ∈ GW := gw_t (List.mem_of_getElem? (i := 80) (by decide +kernel)) rfl
set_option maxRecDepth 100000 in
theorem q_81 : (.fieldLink RX1 29 "KeptPlans$Plan" "guess" "I") ∈ GW := gw_t (List.mem_of_getElem? (i := 81) (by decide +kernel)) rfl
set_option maxRecDepth 100000 in
theorem q_82 : (.fieldLink RX3 103 "KeptPlans$Plan" "guess" "I") ∈ GW := gw_t (List.mem_of_getElem? (i := 82) (by decide +kernel)) rfl
set_option maxRecDepth 100000 in
theorem q_83 : (.fieldLink RX5 172 "KeptPlans$Plan" "guess" "I") ∈ GW := gw_t (List.mem_of_getElem? (i := 83) (by decide +kernel)) rfl
set_option maxRecDepth 100000 in
theorem q_84 : (.fieldLink RX1 32 "KeptPlans$Plan" "rows" "I") ∈ GW := gw_t (List.mem_of_getElem? (i := 84) (by decide +kernel)) rfl
set_option maxRecDepth 100000 in
theorem q_85 : (.fieldLink RX3 89 "KeptPlans$Plan" "rows" "I") ∈ GW := gw_t (List.mem_of_getElem? (i := 85) (by decide +kernel)) rfl
set_option maxRecDepth 100000 in
theorem q_86 : (.fieldLink RX5 190 "KeptPlans$Plan" "rows" "I") ∈ GW := gw_t (List.mem_of_getElem? (i := 86) (by decide +kernel)) rfl
set_option maxRecDepth 100000 in
theorem q_87 : (.fieldLink RX1 35 "KeptPlans$Plan" "uses" "I") ∈ GW := gw_t (List.mem_of_getElem? (i := 87) (by decide +kernel)) rfl
set_option maxRecDepth 100000 in
theorem q_88 : (.fieldLink RX3 130 "KeptPlans$Plan" "uses" "I") ∈ GW := gw_t (List.mem_of_getElem? (i := 88) (by decide +kernel)) rfl
set_option maxRecDepth 100000 in
theorem q_89 : (.fieldLink RX5 184 "KeptPlans$Plan" "uses" "I") ∈ GW := gw_t (List.mem_of_getElem? (i := 89) (by decide +kernel)) rfl
set_option maxRecDepth 100000 in
theorem q_90 : (.fieldLink RX1 38 "KeptPlans$Plan" "madeAt" "I") ∈ GW := gw_t (List.mem_of_getElem? (i := 90) (by decide +kernel)) rfl
set_option maxRecDepth 100000 in
theorem q_91 : (.fieldLink RX3 93 "KeptPlans$Plan" "madeAt" "I") ∈ GW := gw_t (List.mem_of_getElem? (i := 91) (by decide +kernel)) rfl
set_option maxRecDepth 100000 in
theorem q_92 : (.fieldLink RX5 178 "KeptPlans$Plan" "madeAt" "I") ∈ GW := gw_t (List.mem_of_getElem? (i := 92) (by decide +kernel)) rfl
set_option maxRecDepth 100000 in
theorem q_93 : (.fieldLink RX1 41 "KeptPlans$Plan" "usedAt" "I") ∈ GW := gw_t (List.mem_of_getElem? (i := 93) (by decide +kernel)) rfl
set_option maxRecDepth 100000 in
theorem q_94 : (.fieldLink RX3 133 "KeptPlans$Plan" "usedAt" "I") ∈ GW := gw_t (List.mem_of_getElem? (i := 94) (by decide +kernel)) rfl
set_option maxRecDepth 100000 in
theorem q_95 : (.fieldLink RX5 187 "KeptPlans$Plan" "usedAt" "I") ∈ GW := gw_t (List.mem_of_getElem? (i := 95) (by decide +kernel)) rfl
set_option maxRecDepth 100000 in
theorem q_119 : (.fieldLink RX3 11 "KeptPlans$State" "tables" "[LKeptPlans$Table;") ∈ GW := gw_t (List.mem_of_getElem? (i := 119) (by decide +kernel)) rfl
set_option maxRecDepth 100000 in
theorem q_120 : (.fieldLink RX5 41 "KeptPlans$State" "tables" "[LKeptPlans$Table;") ∈ GW := gw_t (List.mem_of_getElem? (i := 120) (by decide +kernel)) rfl
set_option maxRecDepth 100000 in
theorem q_121 : (.fieldLink RX3 19 "KeptPlans$State" "plans" "[LKeptPlans$Plan;") ∈ GW := gw_t (List.mem_of_getElem? (i := 121) (by decide +kernel)) rfl
set_option maxRecDepth 100000 in
theorem q_122 : (.fieldLink RX5 92 "KeptPlans$State" "plans" "[LKeptPlans$Plan;") ∈ GW := gw_t (List.mem_of_getElem? (i := 122) (by decide +kernel)) rfl
set_option maxRecDepth 100000 in
theorem q_123 : (.fieldLink RX3 23 "KeptPlans$State" "settings" "[I") ∈ GW := gw_t (List.mem_of_getElem? (i := 123) (by decide +kernel)) rfl
set_option maxRecDepth 100000 in
theorem q_124 : (.fieldLink RX5 131 "KeptPlans$State" "settings" "[I") ∈ GW := gw_t (List.mem_of_getElem? (i := 124) (by decide +kernel)) rfl
set_option maxRecDepth 100000 in
theorem q_125 : (.fieldLink RX3 36 "KeptPlans$State" "questions" "I") ∈ GW := gw_t (List.mem_of_getElem? (i := 125) (by decide +kernel)) rfl
set_option maxRecDepth 100000 in
theorem q_126 : (.fieldLink RX5 175 "KeptPlans$State" "questions" "I") ∈ GW := gw_t (List.mem_of_getElem? (i := 126) (by decide +kernel)) rfl
set_option maxRecDepth 100000 in
theorem q_127 : (.fieldLink RX3 40 "KeptPlans$State" "hits" "I") ∈ GW := gw_t (List.mem_of_getElem? (i := 127) (by decide +kernel)) rfl
set_option maxRecDepth 100000 in
theorem q_128 : (.fieldLink RX5 217 "KeptPlans$State" "hits" "I") ∈ GW := gw_t (List.mem_of_getElem? (i := 128) (by decide +kernel)) rfl
set_option maxRecDepth 100000 in
theorem q_129 : (.fieldLink RX3 43 "KeptPlans$State" "misses" "I") ∈ GW := gw_t (List.mem_of_getElem? (i := 129) (by decide +kernel)) rfl
set_option maxRecDepth 100000 in
theorem q_130 : (.fieldLink RX5 220 "KeptPlans$State" "misses" "I") ∈ GW := gw_t (List.mem_of_getElem? (i := 130) (by decide +kernel)) rfl
set_option maxRecDepth 100000 in
theorem q_131 : (.fieldLink RX3 46 "KeptPlans$State" "spent" "I") ∈ GW := gw_t (List.mem_of_getElem? (i := 131) (by decide +kernel)) rfl
set_option maxRecDepth 100000 in
theorem q_132 : (.fieldLink RX5 223 "KeptPlans$State" "spent" "I") ∈ GW := gw_t (List.mem_of_getElem? (i := 132) (by decide +kernel)) rfl
set_option maxRecDepth 100000 in
theorem q_133 : (.fieldLink RX3 49 "KeptPlans$State" "spentLooking" "I") ∈ GW := gw_t (List.mem_of_getElem? (i := 133) (by decide +kernel)) rfl
set_option maxRecDepth 100000 in
theorem q_134 : (.fieldLink RX5 224 "KeptPlans$State" "spentLooking" "I") ∈ GW := gw_t (List.mem_of_getElem? (i := 134) (by decide +kernel)) rfl
set_option maxRecDepth 100000 in
theorem q_135 : (.fieldLink RX3 52 "KeptPlans$State" "turnedBad" "I") ∈ GW := gw_t (List.mem_of_getElem? (i := 135) (by decide +kernel)) rfl
set_option maxRecDepth 100000 in
theorem q_136 : (.fieldLink RX5 227 "KeptPlans$State" "turnedBad" "I") ∈ GW := gw_t (List.mem_of_getElem? (i := 136) (by decide +kernel)) rfl
set_option maxRecDepth 100000 in
theorem q_137 : (.fieldLink RX3 55 "KeptPlans$State" "crowdedOut" "I") ∈ GW := gw_t (List.mem_of_getElem? (i := 137) (by decide +kernel)) rfl
set_option maxRecDepth 100000 in
theorem q_138 : (.fieldLink RX5 230 "KeptPlans$State" "crowdedOut" "I") ∈ GW := gw_t (List.mem_of_getElem? (i := 138) (by decide +kernel)) rfl
set_option maxRecDepth 100000 in
theorem q_160 : (.classLink RX5 19 "KeptPlans$History") ∈ GW := gw_t (List.mem_of_getElem? (i := 160) (by decide +kernel)) rfl
set_option maxRecDepth 100000 in
theorem q_161 : (.instantiable RX0 3) ∈ GW := gw_t (List.mem_of_getElem? (i := 161) (by decide +kernel)) rfl
set_option maxRecDepth 100000 in
theorem q_162 : (.methodLink RX5 21 yX0_init) ∈ GW := gw_t (List.mem_of_getElem? (i := 162) (by decide +kernel)) rfl
set_option maxRecDepth 100000 in
theorem q_163 : (.instanceMethod yX0_init) ∈ GW := gw_t (List.mem_of_getElem? (i := 163) (by decide +kernel)) rfl
set_option maxRecDepth 100000 in
theorem q_164 : (.code yX0_init cX0_init 2 none) ∈ GW := gw_t (List.mem_of_getElem? (i := 164) (by decide +kernel)) rfl
set_option maxRecDepth 100000 in
theorem q_165 : (.methodLink RX0 3 objectInit) ∈ GW := gw_t (List.mem_of_getElem? (i := 165) (by decide +kernel)) rfl
set_option maxRecDepth 100000 in
theorem q_166 : (.classLink RX0 9 "KeptPlans$State") ∈ GW := gw_t (List.mem_of_getElem? (i := 166) (by decide +kernel)) rfl
set_option maxRecDepth 100000 in
theorem q_168 : (.methodLink RX0 17 yX3_init) ∈ GW := gw_t (List.mem_of_getElem? (i := 168) (by decide +kernel)) rfl
set_option maxRecDepth 100000 in
theorem q_169 : (.fieldLink RX0 11 "KeptPlans$History" "states" "[LKeptPlans$State;") ∈ GW := gw_t (List.mem_of_getElem? (i := 169) (by decide +kernel)) rfl
set_option maxRecDepth 100000 in
theorem q_170 : (.fieldLink RX0 18 "KeptPlans$History" "next" "I") ∈ GW := gw_t (List.mem_of_getElem? (i := 170) (by decide +kernel)) rfl
set_option maxRecDepth 100000 in
theorem q_171 : (.fieldLink RX0 26 "KeptPlans$History" "size" "I") ∈ GW := gw_t (List.mem_of_getElem? (i := 171) (by decide +kernel)) rfl
set_option maxRecDepth 100000 in
theorem q_172 : (.fieldLink RX5 144 "KeptPlans$History" "size" "I") ∈ GW := gw_t (List.mem_of_getElem? (i := 172) (by decide +kernel)) rfl
set_option maxRecDepth 100000 in
theorem q_180 : (.classLink RX5 26 "KeptPlans$QuestionText") ∈ GW := gw_t (List.mem_of_getElem? (i := 180) (by decide +kernel)) rfl
set_option maxRecDepth 100000 in
theorem q_181 : (.instantiable RX2 7) ∈ GW := gw_t (List.mem_of_getElem? (i := 181) (by decide +kernel)) rfl
set_option maxRecDepth 100000 in
theorem q_183 : (.instanceMethod yX2_init) ∈ GW := gw_t (List.mem_of_getElem? (i := 183) (by decide +kernel)) rfl
set_option maxRecDepth 100000 in
theorem q_184 : (.code yX2_init cX2_init 1 none) ∈ GW := gw_t (List.mem_of_getElem? (i := 184) (by decide +kernel)) rfl
set_option maxRecDepth 100000 in
theorem q_185 : (.methodLink RX2 3 objectInit) ∈ GW := gw_t (List.mem_of_getElem? (i := 185) (by decide +kernel)) rfl
set_option maxRecDepth 100000 in
theorem q_186 : (.fieldLink RX2 9 "KeptPlans$QuestionText" "signs" "[C") ∈ GW := gw_t (List.mem_of_getElem? (i := 186) (by decide +kernel)) rfl
set_option maxRecDepth 100000 in
theorem q_187 : (.fieldLink RX5 140 "KeptPlans$QuestionText" "signs" "[C") ∈ GW := gw_t (List.mem_of_getElem? (i := 187) (by decide +kernel)) rfl
set_option maxRecDepth 100000 in
theorem q_188 : (.fieldLink RX2 36 "KeptPlans$QuestionText" "length" "I") ∈ GW := gw_t (List.mem_of_getElem? (i := 188) (by decide +kernel)) rfl
set_option maxRecDepth 100000 in
theorem q_189 : (.fieldLink RX5 137 "KeptPlans$QuestionText" "length" "I") ∈ GW := gw_t (List.mem_of_getElem? (i := 189) (by decide +kernel)) rfl
set_option maxRecDepth 100000 in
theorem q_190 : (.fieldLink RX2 15 "KeptPlans$QuestionText" "words" "[I") ∈ GW := gw_t (List.mem_of_getElem? (i := 190) (by decide +kernel)) rfl
set_option maxRecDepth 100000 in
theorem q_191 : (.fieldLink RX5 80 "KeptPlans$QuestionText" "words" "[I") ∈ GW := gw_t (List.mem_of_getElem? (i := 191) (by decide +kernel)) rfl
set_option maxRecDepth 100000 in
theorem q_192 : (.fieldLink RX2 19 "KeptPlans$QuestionText" "tables" "[I") ∈ GW := gw_t (List.mem_of_getElem? (i := 192) (by decide +kernel)) rfl
set_option maxRecDepth 100000 in
theorem q_193 : (.fieldLink RX5 84 "KeptPlans$QuestionText" "tables" "[I") ∈ GW := gw_t (List.mem_of_getElem? (i := 193) (by decide +kernel)) rfl
set_option maxRecDepth 100000 in
theorem q_194 : (.fieldLink RX2 22 "KeptPlans$QuestionText" "numbers" "[I") ∈ GW := gw_t (List.mem_of_getElem? (i := 194) (by decide +kernel)) rfl
set_option maxRecDepth 100000 in
theorem q_195 : (.fieldLink RX5 86 "KeptPlans$QuestionText" "numbers" "[I") ∈ GW := gw_t (List.mem_of_getElem? (i := 195) (by decide +kernel)) rfl
set_option maxRecDepth 100000 in
theorem q_196 : (.fieldLink RX2 29 "KeptPlans$QuestionText" "lines" "I") ∈ GW := gw_t (List.mem_of_getElem? (i := 196) (by decide +kernel)) rfl
set_option maxRecDepth 100000 in
theorem q_197 : (.fieldLink RX5 77 "KeptPlans$QuestionText" "lines" "I") ∈ GW := gw_t (List.mem_of_getElem? (i := 197) (by decide +kernel)) rfl
set_option maxRecDepth 100000 in
theorem q_198 : (.fieldLink RX2 25 "KeptPlans$QuestionText" "at" "I") ∈ GW := gw_t (List.mem_of_getElem? (i := 198) (by decide +kernel)) rfl
set_option maxRecDepth 100000 in
theorem q_214 : (.arrayClass .char) ∈ GW := gw_t (List.mem_of_getElem? (i := 214) (by decide +kernel)) rfl
set_option maxRecDepth 100000 in
theorem q_215 : (.fieldLink RX5 10 "KeptPlans" "now" "LKeptPlans$State;") ∈ GW := gw_t (List.mem_of_getElem? (i := 215) (by decide +kernel)) rfl
set_option maxRecDepth 100000 in
theorem q_216 : (.fieldLink RX5 16 "KeptPlans" "snapshot" "LKeptPlans$State;") ∈ GW := gw_t (List.mem_of_getElem? (i := 216) (by decide +kernel)) rfl
set_option maxRecDepth 100000 in
theorem q_217 : (.fieldLink RX5 22 "KeptPlans" "history" "LKeptPlans$History;") ∈ GW := gw_t (List.mem_of_getElem? (i := 217) (by decide +kernel)) rfl
set_option maxRecDepth 100000 in
theorem q_218 : (.fieldLink RX5 29 "KeptPlans" "text" "LKeptPlans$QuestionText;") ∈ GW := gw_t (List.mem_of_getElem? (i := 218) (by decide +kernel)) rfl
set_option maxRecDepth 100000 in
theorem q_219 : (.fieldLink RX5 33 "KeptPlans" "hasSnapshot" "Z") ∈ GW := gw_t (List.mem_of_getElem? (i := 219) (by decide +kernel)) rfl
set_option maxRecDepth 100000 in
theorem q_231 : (.methodLink RL 13 yX5_table) ∈ GW := gw_t (List.mem_of_getElem? (i := 231) (by decide +kernel)) rfl
set_option maxRecDepth 100000 in
theorem q_232 : (.instanceMethod yX5_table) ∈ GW := gw_t (List.mem_of_getElem? (i := 232) (by decide +kernel)) rfl
set_option maxRecDepth 100000 in
theorem q_233 : (.selects RX5 yX5_table yX5_table) ∈ GW := gw_t (List.mem_of_getElem? (i := 233) (by decide +kernel)) rfl
set_option maxRecDepth 100000 in
theorem q_234 : (.code yX5_table cX5_table 5 (some .int)) ∈ GW := gw_t (List.mem_of_getElem? (i := 234) (by decide +kernel)) rfl
set_option maxRecDepth 100000 in
theorem q_235 : (.methodLink RX5 37 yX5_isTable) ∈ GW := gw_t (List.mem_of_getElem? (i := 235) (by decide +kernel)) rfl
set_option maxRecDepth 100000 in
theorem q_236 : (.static yX5_isTable) ∈ GW := gw_t (List.mem_of_getElem? (i := 236) (by decide +kernel)) rfl
set_option maxRecDepth 100000 in
theorem q_237 : (.code yX5_isTable cX5_isTable 1 (some .boolean)) ∈ GW := gw_t (List.mem_of_getElem? (i := 237) (by decide +kernel)) rfl
set_option maxRecDepth 100000 in
theorem q_238 : (.methodLink RX5 54 yX0_record) ∈ GW := gw_t (List.mem_of_getElem? (i := 238) (by decide +kernel)) rfl
set_option maxRecDepth 100000 in
theorem q_239 : (.instanceMethod yX0_record) ∈ GW := gw_t (List.mem_of_getElem? (i := 239) (by decide +kernel)) rfl
set_option maxRecDepth 100000 in
theorem q_240 : (.selects RX0 yX0_record yX0_record) ∈ GW := gw_t (List.mem_of_getElem? (i := 240) (by decide +kernel)) rfl
set_option maxRecDepth 100000 in
theorem q_241 : (.code yX0_record cX0_record 2 none) ∈ GW := gw_t (List.mem_of_getElem? (i := 241) (by decide +kernel)) rfl
set_option maxRecDepth 100000 in
theorem q_242 : (.methodLink RX0 22 yX3_copyFrom) ∈ GW := gw_t (List.mem_of_getElem? (i := 242) (by decide +kernel)) rfl
set_option maxRecDepth 100000 in
theorem q_243 : (.instanceMethod yX3_copyFrom) ∈ GW := gw_t (List.mem_of_getElem? (i := 243) (by decide +kernel)) rfl
set_option maxRecDepth 100000 in
theorem q_244 : (.selects RX3 yX3_copyFrom yX3_copyFrom) ∈ GW := gw_t (List.mem_of_getElem? (i := 244) (by decide +kernel)) rfl
set_option maxRecDepth 100000 in
theorem q_245 : (.code yX3_copyFrom cX3_copyFrom 3 none) ∈ GW := gw_t (List.mem_of_getElem? (i := 245) (by decide +kernel)) rfl
set_option maxRecDepth 100000 in
theorem q_246 : (.methodLink RX3 29 yX4_copyFrom) ∈ GW := gw_t (List.mem_of_getElem? (i := 246) (by decide +kernel)) rfl
set_option maxRecDepth 100000 in
theorem q_247 : (.instanceMethod yX4_copyFrom) ∈ GW := gw_t (List.mem_of_getElem? (i := 247) (by decide +kernel)) rfl
set_option maxRecDepth 100000 in
theorem q_248 : (.selects RX4 yX4_copyFrom yX4_copyFrom) ∈ GW := gw_t (List.mem_of_getElem? (i := 248) (by decide +kernel)) rfl
set_option maxRecDepth 100000 in
theorem q_249 : (.code yX4_copyFrom cX4_copyFrom 2 none) ∈ GW := gw_t (List.mem_of_getElem? (i := 249) (by decide +kernel)) rfl
set_option maxRecDepth 100000 in
theorem q_250 : (.methodLink RX3 33 yX1_copyFrom) ∈ GW := gw_t (List.mem_of_getElem? (i := 250) (by decide +kernel)) rfl
set_option maxRecDepth 100000 in
theorem q_251 : (.instanceMethod yX1_copyFrom) ∈ GW := gw_t (List.mem_of_getElem? (i := 251) (by decide +kernel)) rfl
set_option maxRecDepth 100000 in
theorem q_252 : (.selects RX1 yX1_copyFrom yX1_copyFrom) ∈ GW := gw_t (List.mem_of_getElem? (i := 252) (by decide +kernel)) rfl
set_option maxRecDepth 100000 in
theorem q_253 : (.code yX1_copyFrom cX1_copyFrom 2 none) ∈ GW := gw_t (List.mem_of_getElem? (i := 253) (by decide +kernel)) rfl
set_option maxRecDepth 100000 in
theorem q_254 : (.methodLink RX0 29 yJ9_min_7cf53) ∈ GW := gw_t (List.mem_of_getElem? (i := 254) (by decide +kernel)) rfl
set_option maxRecDepth 100000 in
theorem q_255 : (.static yJ9_min_7cf53) ∈ GW := gw_t (List.mem_of_getElem? (i := 255) (by decide +kernel)) rfl
set_option maxRecDepth 100000 in
theorem q_256 : (.code yJ9_min_7cf53 cJ9_min_7cf53 2 (some .int)) ∈ GW := gw_t (List.mem_of_getElem? (i := 256) (by decide +kernel)) rfl
set_option maxRecDepth 100000 in
theorem q_257 : (.methodLink RX5 58 yX3_resize) ∈ GW := gw_t (List.mem_of_getElem? (i := 257) (by decide +kernel)) rfl
set_option maxRecDepth 100000 in
theorem q_258 : (.instanceMethod yX3_resize) ∈ GW := gw_t (List.mem_of_getElem? (i := 258) (by decide +kernel)) rfl
set_option maxRecDepth 100000 in
theorem q_259 : (.selects RX3 yX3_resize yX3_resize) ∈ GW := gw_t (List.mem_of_getElem? (i := 259) (by decide +kernel)) rfl
set_option maxRecDepth 100000 in
theorem q_260 : (.code yX3_resize cX3_resize 4 none) ∈ GW := gw_t (List.mem_of_getElem? (i := 260) (by decide +kernel)) rfl
set_option maxRecDepth 100000 in
theorem q_261 : (.methodLink RL 18 yX5_ask) ∈ GW := gw_t (List.mem_of_getElem? (i := 261) (by decide +kernel)) rfl
set_option maxRecDepth 100000 in
theorem q_262 : (.instanceMethod yX5_ask) ∈ GW := gw_t (List.mem_of_getElem? (i := 262) (by decide +kernel)) rfl
set_option maxRecDepth 100000 in
theorem q_263 : (.selects RX5 yX5_ask yX5_ask) ∈ GW := gw_t (List.mem_of_getElem? (i := 263) (by decide +kernel)) rfl
set_option maxRecDepth 100000 in
theorem q_264 : (.code yX5_ask cX5_ask 3 (some .int)) ∈ GW := gw_t (List.mem_of_getElem? (i := 264) (by decide +kernel)) rfl
set_option maxRecDepth 100000 in
theorem q_265 : (.methodLink RX5 62 yX5_isShape) ∈ GW := gw_t (List.mem_of_getElem? (i := 265) (by decide +kernel)) rfl
set_option maxRecDepth 100000 in
theorem q_266 : (.static yX5_isShape) ∈ GW := gw_t (List.mem_of_getElem? (i := 266) (by decide +kernel)) rfl
set_option maxRecDepth 100000 in
theorem q_267 : (.code yX5_isShape cX5_isShape 1 (some .boolean)) ∈ GW := gw_t (List.mem_of_getElem? (i := 267) (by decide +kernel)) rfl
set_option maxRecDepth 100000 in
theorem q_268 : (.methodLink RX5 65 yX5_isNumberOf) ∈ GW := gw_t (List.mem_of_getElem? (i := 268) (by decide +kernel)) rfl
set_option maxRecDepth 100000 in
theorem q_269 : (.static yX5_isNumberOf) ∈ GW := gw_t (List.mem_of_getElem? (i := 269) (by decide +kernel)) rfl
set_option maxRecDepth 100000 in
theorem q_270 : (.code yX5_isNumberOf cX5_isNumberOf 2 (some .boolean)) ∈ GW := gw_t (List.mem_of_getElem? (i := 270) (by decide +kernel)) rfl
set_option maxRecDepth 100000 in
theorem q_271 : (.methodLink RX5 201 yX5_leastNumberOf) ∈ GW := gw_t (List.mem_of_getElem? (i := 271) (by decide +kernel)) rfl
set_option maxRecDepth 100000 in
theorem q_272 : (.static yX5_leastNumberOf) ∈ GW := gw_t (List.mem_of_getElem? (i := 272) (by decide +kernel)) rfl
set_option maxRecDepth 100000 in
theorem q_273 : (.code yX5_leastNumberOf cX5_leastNumberOf 1 (some .int)) ∈ GW := gw_t (List.mem_of_getElem? (i := 273) (by decide +kernel)) rfl
set_option maxRecDepth 100000 in
theorem q_274 : (.methodLink RX5 69 yX3_answer) ∈ GW := gw_t (List.mem_of_getElem? (i := 274) (by decide +kernel)) rfl
set_option maxRecDepth 100000 in
theorem q_275 : (.instanceMethod yX3_answer) ∈ GW := gw_t (List.mem_of_getElem? (i := 275) (by decide +kernel)) rfl
set_option maxRecDepth 100000 in
theorem q_276 : (.selects RX3 yX3_answer yX3_answer) ∈ GW := gw_t (List.mem_of_getElem? (i := 276) (by decide +kernel)) rfl
set_option maxRecDepth 100000 in
theorem q_277 : (.code yX3_answer cX3_answer 6 (some .int)) ∈ GW := gw_t (List.mem_of_getElem? (i := 277) (by decide +kernel)) rfl
set_option maxRecDepth 100000 in
theorem q_278 : (.methodLink RX3 116 yX3_whyNotUsed) ∈ GW := gw_t (List.mem_of_getElem? (i := 278) (by decide +kernel)) rfl
set_option maxRecDepth 100000 in
theorem q_279 : (.instanceMethod yX3_whyNotUsed) ∈ GW := gw_t (List.mem_of_getElem? (i := 279) (by decide +kernel)) rfl
set_option maxRecDepth 100000 in
theorem q_280 : (.selects RX3 yX3_whyNotUsed yX3_whyNotUsed) ∈ GW := gw_t (List.mem_of_getElem? (i := 280) (by decide +kernel)) rfl
set_option maxRecDepth 100000 in
theorem q_281 : (.code yX3_whyNotUsed cX3_whyNotUsed 4 (some .int)) ∈ GW := gw_t (List.mem_of_getElem? (i := 281) (by decide +kernel)) rfl
set_option maxRecDepth 100000 in
theorem q_282 : (.methodLink RX3 96 yX3_rowsChangedTooMuch) ∈ GW := gw_t (List.mem_of_getElem? (i := 282) (by decide +kernel)) rfl
set_option maxRecDepth 100000 in
theorem q_283 : (.instanceMethod yX3_rowsChangedTooMuch) ∈ GW := gw_t (List.mem_of_getElem? (i := 283) (by decide +kernel)) rfl
set_option maxRecDepth 100000 in
theorem q_284 : (.selects RX3 yX3_rowsChangedTooMuch yX3_rowsChangedTooMuch) ∈ GW := gw_t (List.mem_of_getElem? (i := 284) (by decide +kernel)) rfl
set_option maxRecDepth 100000 in
theorem q_285 : (.code yX3_rowsChangedTooMuch cX3_rowsChangedTooMuch 3 (some .boolean)) ∈ GW := gw_t (List.mem_of_getElem? (i := 285) (by decide +kernel)) rfl
set_option maxRecDepth 100000 in
theorem q_286 : (.methodLink RX3 64 yX3_tableUnder) ∈ GW := gw_t (List.mem_of_getElem? (i := 286) (by decide +kernel)) rfl
set_option maxRecDepth 100000 in
theorem q_287 : (.instanceMethod yX3_tableUnder) ∈ GW := gw_t (List.mem_of_getElem? (i := 287) (by decide +kernel)) rfl
set_option maxRecDepth 100000 in
theorem q_288 : (.selects RX3 yX3_tableUnder yX3_tableUnder) ∈ GW := gw_t (List.mem_of_getElem? (i := 288) (by decide +kernel)) rfl
set_option maxRecDepth 100000 in
theorem q_289 : (.code yX3_tableUnder cX3_tableUnder 2 (some (.object "KeptPlans$Table"))) ∈ GW := gw_t (List.mem_of_getElem? (i := 289) (by decide +kernel)) rfl
set_option maxRecDepth 100000 in
theorem q_290 : (.methodLink RX3 90 yJ9_abs_0f7a4) ∈ GW := gw_t (List.mem_of_getElem? (i := 290) (by decide +kernel)) rfl
set_option maxRecDepth 100000 in
theorem q_291 : (.static yJ9_abs_0f7a4) ∈ GW := gw_t (List.mem_of_getElem? (i := 291) (by decide +kernel)) rfl
set_option maxRecDepth 100000 in
theorem q_292 : (.code yJ9_abs_0f7a4 cJ9_abs_0f7a4 1 (some .int)) ∈ GW := gw_t (List.mem_of_getElem? (i := 292) (by decide +kernel)) rfl
set_option maxRecDepth 100000 in
theorem q_293 : (.methodLink RX3 100 yX3_isTooOld) ∈ GW := gw_t (List.mem_of_getElem? (i := 293) (by decide +kernel)) rfl
set_option maxRecDepth 100000 in
theorem q_294 : (.instanceMethod yX3_isTooOld) ∈ GW := gw_t (List.mem_of_getElem? (i := 294) (by decide +kernel)) rfl
set_option maxRecDepth 100000 in
theorem q_295 : (.selects RX3 yX3_isTooOld yX3_isTooOld) ∈ GW := gw_t (List.mem_of_getElem? (i := 295) (by decide +kernel)) rfl
set_option maxRecDepth 100000 in
theorem q_296 : (.code yX3_isTooOld cX3_isTooOld 2 (some .boolean)) ∈ GW := gw_t (List.mem_of_getElem? (i := 296) (by decide +kernel)) rfl
set_option maxRecDepth 100000 in
theorem q_297 : (.methodLink RX3 119 yX3_answerByPlan) ∈ GW := gw_t (List.mem_of_getElem? (i := 297) (by decide +kernel)) rfl
set_option maxRecDepth 100000 in
theorem q_298 : (.instanceMethod yX3_answerByPlan) ∈ GW := gw_t (List.mem_of_getElem? (i := 298) (by decide +kernel)) rfl
set_option maxRecDepth 100000 in
theorem q_299 : (.selects RX3 yX3_answerByPlan yX3_answerByPlan) ∈ GW := gw_t (List.mem_of_getElem? (i := 299) (by decide +kernel)) rfl
set_option maxRecDepth 100000 in
theorem q_300 : (.code yX3_answerByPlan cX3_answerByPlan 5 (some .int)) ∈ GW := gw_t (List.mem_of_getElem? (i := 300) (by decide +kernel)) rfl
set_option maxRecDepth 100000 in
theorem q_301 : (.methodLink RX3 85 yX3_priceBy) ∈ GW := gw_t (List.mem_of_getElem? (i := 301) (by decide +kernel)) rfl
set_option maxRecDepth 100000 in
theorem q_302 : (.instanceMethod yX3_priceBy) ∈ GW := gw_t (List.mem_of_getElem? (i := 302) (by decide +kernel)) rfl
set_option maxRecDepth 100000 in
theorem q_303 : (.selects RX3 yX3_priceBy yX3_priceBy) ∈ GW := gw_t (List.mem_of_getElem? (i := 303) (by decide +kernel)) rfl
set_option maxRecDepth 100000 in
theorem q_304 : (.code yX3_priceBy cX3_priceBy 7 (some .int)) ∈ GW := gw_t (List.mem_of_getElem? (i := 304) (by decide +kernel)) rfl
set_option maxRecDepth 100000 in
theorem q_306 : (.static yX5_bitsOf) ∈ GW := gw_t (List.mem_of_getElem? (i := 306) (by decide +kernel)) rfl
set_option maxRecDepth 100000 in
theorem q_307 : (.code yX5_bitsOf cX5_bitsOf 2 (some .int)) ∈ GW := gw_t (List.mem_of_getElem? (i := 307) (by decide +kernel)) rfl
set_option maxRecDepth 100000 in
theorem q_308 : (.methodLink RX3 72 yX3_rowsMet) ∈ GW := gw_t (List.mem_of_getElem? (i := 308) (by decide +kernel)) rfl
set_option maxRecDepth 100000 in
theorem q_309 : (.instanceMethod yX3_rowsMet) ∈ GW := gw_t (List.mem_of_getElem? (i := 309) (by decide +kernel)) rfl
set_option maxRecDepth 100000 in
theorem q_310 : (.selects RX3 yX3_rowsMet yX3_rowsMet) ∈ GW := gw_t (List.mem_of_getElem? (i := 310) (by decide +kernel)) rfl
set_option maxRecDepth 100000 in
theorem q_311 : (.code yX3_rowsMet cX3_rowsMet 5 (some .int)) ∈ GW := gw_t (List.mem_of_getElem? (i := 311) (by decide +kernel)) rfl
set_option maxRecDepth 100000 in
theorem q_313 : (.static yX5_quotient) ∈ GW := gw_t (List.mem_of_getElem? (i := 313) (by decide +kernel)) rfl
set_option maxRecDepth 100000 in
theorem q_314 : (.code yX5_quotient cX5_quotient 2 (some .int)) ∈ GW := gw_t (List.mem_of_getElem? (i := 314) (by decide +kernel)) rfl
set_option maxRecDepth 100000 in
theorem q_315 : (.methodLink RX3 77 yJ9_min_7cf53) ∈ GW := gw_t (List.mem_of_getElem? (i := 315) (by decide +kernel)) rfl
set_option maxRecDepth 100000 in
theorem q_316 : (.constant RX3 76 (1000000 : Int32)) ∈ GW := gw_t (List.mem_of_getElem? (i := 316) (by decide +kernel)) rfl
set_option maxRecDepth 100000 in
theorem q_317 : (.methodLink RX3 136 yX3_isTooDear) ∈ GW := gw_t (List.mem_of_getElem? (i := 317) (by decide +kernel)) rfl
set_option maxRecDepth 100000 in
theorem q_318 : (.instanceMethod yX3_isTooDear) ∈ GW := gw_t (List.mem_of_getElem? (i := 318) (by decide +kernel)) rfl
set_option maxRecDepth 100000 in
theorem q_319 : (.selects RX3 yX3_isTooDear yX3_isTooDear) ∈ GW := gw_t (List.mem_of_getElem? (i := 319) (by decide +kernel)) rfl
set_option maxRecDepth 100000 in
theorem q_320 : (.code yX3_isTooDear cX3_isTooDear 3 (some .boolean)) ∈ GW := gw_t (List.mem_of_getElem? (i := 320) (by decide +kernel)) rfl
set_option maxRecDepth 100000 in
theorem q_321 : (.methodLink RX3 122 yX3_answerByLooking) ∈ GW := gw_t (List.mem_of_getElem? (i := 321) (by decide +kernel)) rfl
set_option maxRecDepth 100000 in
theorem q_322 : (.instanceMethod yX3_answerByLooking) ∈ GW := gw_t (List.mem_of_getElem? (i := 322) (by decide +kernel)) rfl
set_option maxRecDepth 100000 in
theorem q_323 : (.selects RX3 yX3_answerByLooking yX3_answerByLooking) ∈ GW := gw_t (List.mem_of_getElem? (i := 323) (by decide +kernel)) rfl
set_option maxRecDepth 100000 in
theorem q_324 : (.code yX3_answerByLooking cX3_answerByLooking 5 (some .int)) ∈ GW := gw_t (List.mem_of_getElem? (i := 324) (by decide +kernel)) rfl
set_option maxRecDepth 100000 in
theorem q_325 : (.methodLink RX3 140 yX3_cheapestWay) ∈ GW := gw_t (List.mem_of_getElem? (i := 325) (by decide +kernel)) rfl
set_option maxRecDepth 100000 in
theorem q_326 : (.instanceMethod yX3_cheapestWay) ∈ GW := gw_t (List.mem_of_getElem? (i := 326) (by decide +kernel)) rfl
set_option maxRecDepth 100000 in
theorem q_327 : (.selects RX3 yX3_cheapestWay yX3_cheapestWay) ∈ GW := gw_t (List.mem_of_getElem? (i := 327) (by decide +kernel)) rfl
set_option maxRecDepth 100000 in
theorem q_328 : (.code yX3_cheapestWay cX3_cheapestWay 7 (some .int)) ∈ GW := gw_t (List.mem_of_getElem? (i := 328) (by decide +kernel)) rfl
set_option maxRecDepth 100000 in
theorem q_329 : (.methodLink RX3 143 yX3_makeRoomFor) ∈ GW := gw_t (List.mem_of_getElem? (i := 329) (by decide +kernel)) rfl
set_option maxRecDepth 100000 in
theorem q_330 : (.instanceMethod yX3_makeRoomFor) ∈ GW := gw_t (List.mem_of_getElem? (i := 330) (by decide +kernel)) rfl
set_option maxRecDepth 100000 in
theorem q_331 : (.selects RX3 yX3_makeRoomFor yX3_makeRoomFor) ∈ GW := gw_t (List.mem_of_getElem? (i := 331) (by decide +kernel)) rfl
set_option maxRecDepth 100000 in
theorem q_332 : (.code yX3_makeRoomFor cX3_makeRoomFor 2 none) ∈ GW := gw_t (List.mem_of_getElem? (i := 332) (by decide +kernel)) rfl
set_option maxRecDepth 100000 in
theorem q_333 : (.methodLink RX3 167 yX3_lacksRoomFor) ∈ GW := gw_t (List.mem_of_getElem? (i := 333) (by decide +kernel)) rfl
set_option maxRecDepth 100000 in
theorem q_334 : (.instanceMethod yX3_lacksRoomFor) ∈ GW := gw_t (List.mem_of_getElem? (i := 334) (by decide +kernel)) rfl
set_option maxRecDepth 100000 in
theorem q_335 : (.selects RX3 yX3_lacksRoomFor yX3_lacksRoomFor) ∈ GW := gw_t (List.mem_of_getElem? (i := 335) (by decide +kernel)) rfl
set_option maxRecDepth 100000 in
theorem q_336 : (.code yX3_lacksRoomFor cX3_lacksRoomFor 2 (some .boolean)) ∈ GW := gw_t (List.mem_of_getElem? (i := 336) (by decide +kernel)) rfl
set_option maxRecDepth 100000 in
theorem q_337 : (.methodLink RX3 164 yX3_keptPlans) ∈ GW := gw_t (List.mem_of_getElem? (i := 337) (by decide +kernel)) rfl
set_option maxRecDepth 100000 in
theorem q_338 : (.instanceMethod yX3_keptPlans) ∈ GW := gw_t (List.mem_of_getElem? (i := 338) (by decide +kernel)) rfl
set_option maxRecDepth 100000 in
theorem q_339 : (.selects RX3 yX3_keptPlans yX3_keptPlans) ∈ GW := gw_t (List.mem_of_getElem? (i := 339) (by decide +kernel)) rfl
set_option maxRecDepth 100000 in
theorem q_340 : (.code yX3_keptPlans cX3_keptPlans 3 (some .int)) ∈ GW := gw_t (List.mem_of_getElem? (i := 340) (by decide +kernel)) rfl
set_option maxRecDepth 100000 in
theorem q_341 : (.methodLink RX3 173 yX3_crowdOutDownTo) ∈ GW := gw_t (List.mem_of_getElem? (i := 341) (by decide +kernel)) rfl
set_option maxRecDepth 100000 in
theorem q_342 : (.instanceMethod yX3_crowdOutDownTo) ∈ GW := gw_t (List.mem_of_getElem? (i := 342) (by decide +kernel)) rfl
set_option maxRecDepth 100000 in
theorem q_343 : (.selects RX3 yX3_crowdOutDownTo yX3_crowdOutDownTo) ∈ GW := gw_t (List.mem_of_getElem? (i := 343) (by decide +kernel)) rfl
set_option maxRecDepth 100000 in
theorem q_344 : (.code yX3_crowdOutDownTo cX3_crowdOutDownTo 5 none) ∈ GW := gw_t (List.mem_of_getElem? (i := 344) (by decide +kernel)) rfl
set_option maxRecDepth 100000 in
theorem q_345 : (.methodLink RX3 170 yX3_oldestUnpinned) ∈ GW := gw_t (List.mem_of_getElem? (i := 345) (by decide +kernel)) rfl
set_option maxRecDepth 100000 in
theorem q_346 : (.instanceMethod yX3_oldestUnpinned) ∈ GW := gw_t (List.mem_of_getElem? (i := 346) (by decide +kernel)) rfl
set_option maxRecDepth 100000 in
theorem q_347 : (.selects RX3 yX3_oldestUnpinned yX3_oldestUnpinned) ∈ GW := gw_t (List.mem_of_getElem? (i := 347) (by decide +kernel)) rfl
set_option maxRecDepth 100000 in
theorem q_348 : (.code yX3_oldestUnpinned cX3_oldestUnpinned 6 (some .int)) ∈ GW := gw_t (List.mem_of_getElem? (i := 348) (by decide +kernel)) rfl
set_option maxRecDepth 100000 in
theorem q_349 : (.methodLink RX3 147 yX3_couldKeep) ∈ GW := gw_t (List.mem_of_getElem? (i := 349) (by decide +kernel)) rfl
set_option maxRecDepth 100000 in
theorem q_350 : (.instanceMethod yX3_couldKeep) ∈ GW := gw_t (List.mem_of_getElem? (i := 350) (by decide +kernel)) rfl
set_option maxRecDepth 100000 in
theorem q_351 : (.selects RX3 yX3_couldKeep yX3_couldKeep) ∈ GW := gw_t (List.mem_of_getElem? (i := 351) (by decide +kernel)) rfl
set_option maxRecDepth 100000 in
theorem q_352 : (.code yX3_couldKeep cX3_couldKeep 2 (some .boolean)) ∈ GW := gw_t (List.mem_of_getElem? (i := 352) (by decide +kernel)) rfl
set_option maxRecDepth 100000 in
theorem q_353 : (.methodLink RX3 160 yX3_pinnedPlans) ∈ GW := gw_t (List.mem_of_getElem? (i := 353) (by decide +kernel)) rfl
set_option maxRecDepth 100000 in
theorem q_354 : (.instanceMethod yX3_pinnedPlans) ∈ GW := gw_t (List.mem_of_getElem? (i := 354) (by decide +kernel)) rfl
set_option maxRecDepth 100000 in
theorem q_355 : (.selects RX3 yX3_pinnedPlans yX3_pinnedPlans) ∈ GW := gw_t (List.mem_of_getElem? (i := 355) (by decide +kernel)) rfl
set_option maxRecDepth 100000 in
theorem q_356 : (.code yX3_pinnedPlans cX3_pinnedPlans 3 (some .int)) ∈ GW := gw_t (List.mem_of_getElem? (i := 356) (by decide +kernel)) rfl
set_option maxRecDepth 100000 in
theorem q_357 : (.methodLink RX3 150 yX3_place) ∈ GW := gw_t (List.mem_of_getElem? (i := 357) (by decide +kernel)) rfl
set_option maxRecDepth 100000 in
theorem q_358 : (.instanceMethod yX3_place) ∈ GW := gw_t (List.mem_of_getElem? (i := 358) (by decide +kernel)) rfl
set_option maxRecDepth 100000 in
theorem q_359 : (.selects RX3 yX3_place yX3_place) ∈ GW := gw_t (List.mem_of_getElem? (i := 359) (by decide +kernel)) rfl
set_option maxRecDepth 100000 in
theorem q_360 : (.code yX3_place cX3_place 7 none) ∈ GW := gw_t (List.mem_of_getElem? (i := 360) (by decide +kernel)) rfl
set_option maxRecDepth 100000 in
theorem q_361 : (.methodLink RL 23 yX5_askAll) ∈ GW := gw_t (List.mem_of_getElem? (i := 361) (by decide +kernel)) rfl
set_option maxRecDepth 100000 in
theorem q_362 : (.instanceMethod yX5_askAll) ∈ GW := gw_t (List.mem_of_getElem? (i := 362) (by decide +kernel)) rfl
set_option maxRecDepth 100000 in
theorem q_363 : (.selects RX5 yX5_askAll yX5_askAll) ∈ GW := gw_t (List.mem_of_getElem? (i := 363) (by decide +kernel)) rfl
set_option maxRecDepth 100000 in
theorem q_364 : (.code yX5_askAll cX5_askAll 5 (some .int)) ∈ GW := gw_t (List.mem_of_getElem? (i := 364) (by decide +kernel)) rfl
set_option maxRecDepth 100000 in
theorem q_365 : (.methodLink RX5 73 yX2_read) ∈ GW := gw_t (List.mem_of_getElem? (i := 365) (by decide +kernel)) rfl
set_option maxRecDepth 100000 in
theorem q_366 : (.instanceMethod yX2_read) ∈ GW := gw_t (List.mem_of_getElem? (i := 366) (by decide +kernel)) rfl
set_option maxRecDepth 100000 in
theorem q_367 : (.selects RX2 yX2_read yX2_read) ∈ GW := gw_t (List.mem_of_getElem? (i := 367) (by decide +kernel)) rfl
set_option maxRecDepth 100000 in
theorem q_368 : (.code yX2_read cX2_read 1 (some .int)) ∈ GW := gw_t (List.mem_of_getElem? (i := 368) (by decide +kernel)) rfl
set_option maxRecDepth 100000 in
theorem q_369 : (.methodLink RX2 32 yX2_readLine) ∈ GW := gw_t (List.mem_of_getElem? (i := 369) (by decide +kernel)) rfl
set_option maxRecDepth 100000 in
theorem q_370 : (.instanceMethod yX2_readLine) ∈ GW := gw_t (List.mem_of_getElem? (i := 370) (by decide +kernel)) rfl
set_option maxRecDepth 100000 in
theorem q_371 : (.selects RX2 yX2_readLine yX2_readLine) ∈ GW := gw_t (List.mem_of_getElem? (i := 371) (by decide +kernel)) rfl
set_option maxRecDepth 100000 in
theorem q_372 : (.code yX2_readLine cX2_readLine 5 (some .boolean)) ∈ GW := gw_t (List.mem_of_getElem? (i := 372) (by decide +kernel)) rfl
set_option maxRecDepth 100000 in
theorem q_373 : (.methodLink RX2 45 yX2_readWord) ∈ GW := gw_t (List.mem_of_getElem? (i := 373) (by decide +kernel)) rfl
set_option maxRecDepth 100000 in
theorem q_374 : (.instanceMethod yX2_readWord) ∈ GW := gw_t (List.mem_of_getElem? (i := 374) (by decide +kernel)) rfl
set_option maxRecDepth 100000 in
theorem q_375 : (.selects RX2 yX2_readWord yX2_readWord) ∈ GW := gw_t (List.mem_of_getElem? (i := 375) (by decide +kernel)) rfl
set_option maxRecDepth 100000 in
theorem q_376 : (.code yX2_readWord cX2_readWord 1 (some .int)) ∈ GW := gw_t (List.mem_of_getElem? (i := 376) (by decide +kernel)) rfl
set_option maxRecDepth 100000 in
theorem q_377 : (.methodLink RX2 53 yX2_sign) ∈ GW := gw_t (List.mem_of_getElem? (i := 377) (by decide +kernel)) rfl
set_option maxRecDepth 100000 in
theorem q_378 : (.instanceMethod yX2_sign) ∈ GW := gw_t (List.mem_of_getElem? (i := 378) (by decide +kernel)) rfl
set_option maxRecDepth 100000 in
theorem q_379 : (.selects RX2 yX2_sign yX2_sign) ∈ GW := gw_t (List.mem_of_getElem? (i := 379) (by decide +kernel)) rfl
set_option maxRecDepth 100000 in
theorem q_380 : (.code yX2_sign cX2_sign 1 (some .int)) ∈ GW := gw_t (List.mem_of_getElem? (i := 380) (by decide +kernel)) rfl
set_option maxRecDepth 100000 in
theorem q_381 : (.methodLink RX2 56 yX2_readKeyOrKeys) ∈ GW := gw_t (List.mem_of_getElem? (i := 381) (by decide +kernel)) rfl
set_option maxRecDepth 100000 in
theorem q_382 : (.instanceMethod yX2_readKeyOrKeys) ∈ GW := gw_t (List.mem_of_getElem? (i := 382) (by decide +kernel)) rfl
set_option maxRecDepth 100000 in
theorem q_383 : (.selects RX2 yX2_readKeyOrKeys yX2_readKeyOrKeys) ∈ GW := gw_t (List.mem_of_getElem? (i := 383) (by decide +kernel)) rfl
set_option maxRecDepth 100000 in
theorem q_384 : (.code yX2_readKeyOrKeys cX2_readKeyOrKeys 1 (some .int)) ∈ GW := gw_t (List.mem_of_getElem? (i := 384) (by decide +kernel)) rfl
set_option maxRecDepth 100000 in
theorem q_386 : (.methodLink RX2 41 yX2_pass) ∈ GW := gw_t (List.mem_of_getElem? (i := 386) (by decide +kernel)) rfl
set_option maxRecDepth 100000 in
theorem q_387 : (.instanceMethod yX2_pass) ∈ GW := gw_t (List.mem_of_getElem? (i := 387) (by decide +kernel)) rfl
set_option maxRecDepth 100000 in
theorem q_388 : (.selects RX2 yX2_pass yX2_pass) ∈ GW := gw_t (List.mem_of_getElem? (i := 388) (by decide +kernel)) rfl
set_option maxRecDepth 100000 in
theorem q_389 : (.code yX2_pass cX2_pass 3 (some .boolean)) ∈ GW := gw_t (List.mem_of_getElem? (i := 389) (by decide +kernel)) rfl
set_option maxRecDepth 100000 in
theorem q_390 : (.methodLink RX2 74 yJ0_length_8abf5) ∈ GW := gw_t (List.mem_of_getElem? (i := 390) (by decide +kernel)) rfl
set_option maxRecDepth 100000 in
theorem q_391 : (.instanceMethod yJ0_length_8abf5) ∈ GW := gw_t (List.mem_of_getElem? (i := 391) (by decide +kernel)) rfl
set_option maxRecDepth 100000 in
theorem q_392 : (.selects RJ0 yJ0_length_8abf5 yJ0_length_8abf5) ∈ GW := gw_t (List.mem_of_getElem? (i := 392) (by decide +kernel)) rfl
set_option maxRecDepth 100000 in
theorem q_393 : (.code yJ0_length_8abf5 cJ0_length_8abf5 1 (some .int)) ∈ GW := gw_t (List.mem_of_getElem? (i := 393) (by decide +kernel)) rfl
set_option maxRecDepth 100000 in
theorem q_394 : (.methodLink RJ0 335 yJ0_coder_7d493) ∈ GW := gw_t (List.mem_of_getElem? (i := 394) (by decide +kernel)) rfl
set_option maxRecDepth 100000 in
theorem q_395 : (.instanceMethod yJ0_coder_7d493) ∈ GW := gw_t (List.mem_of_getElem? (i := 395) (by decide +kernel)) rfl
set_option maxRecDepth 100000 in
theorem q_396 : (.selects RJ0 yJ0_coder_7d493 yJ0_coder_7d493) ∈ GW := gw_t (List.mem_of_getElem? (i := 396) (by decide +kernel)) rfl
set_option maxRecDepth 100000 in
theorem q_397 : (.code yJ0_coder_7d493 cJ0_coder_7d493 1 (some .byte)) ∈ GW := gw_t (List.mem_of_getElem? (i := 397) (by decide +kernel)) rfl
set_option maxRecDepth 100000 in
theorem q_398 : (.fieldLink RJ0 38 "java/lang/String" "COMPACT_STRINGS" "Z") ∈ GW := gw_t (List.mem_of_getElem? (i := 398) (by decide +kernel)) rfl
set_option maxRecDepth 100000 in
theorem q_400 : (.methodLink RX2 78 yJ0_charAt_5068e) ∈ GW := gw_t (List.mem_of_getElem? (i := 400) (by decide +kernel)) rfl
set_option maxRecDepth 100000 in
theorem q_401 : (.instanceMethod yJ0_charAt_5068e) ∈ GW := gw_t (List.mem_of_getElem? (i := 401) (by decide +kernel)) rfl
set_option maxRecDepth 100000 in
theorem q_402 : (.selects RJ0 yJ0_charAt_5068e yJ0_charAt_5068e) ∈ GW := gw_t (List.mem_of_getElem? (i := 402) (by decide +kernel)) rfl
set_option maxRecDepth 100000 in
theorem q_403 : (.code yJ0_charAt_5068e cJ0_charAt_5068e 2 (some .char)) ∈ GW := gw_t (List.mem_of_getElem? (i := 403) (by decide +kernel)) rfl
set_option maxRecDepth 100000 in
theorem q_404 : (.methodLink RJ0 492 yJ0_isLatin1_aae02) ∈ GW := gw_t (List.mem_of_getElem? (i := 404) (by decide +kernel)) rfl
set_option maxRecDepth 100000 in
theorem q_405 : (.instanceMethod yJ0_isLatin1_aae02) ∈ GW := gw_t (List.mem_of_getElem? (i := 405) (by decide +kernel)) rfl
set_option maxRecDepth 100000 in
theorem q_406 : (.selects RJ0 yJ0_isLatin1_aae02 yJ0_isLatin1_aae02) ∈ GW := gw_t (List.mem_of_getElem? (i := 406) (by decide +kernel)) rfl
set_option maxRecDepth 100000 in
theorem q_407 : (.code yJ0_isLatin1_aae02 cJ0_isLatin1_aae02 1 (some .boolean)) ∈ GW := gw_t (List.mem_of_getElem? (i := 407) (by decide +kernel)) rfl
set_option maxRecDepth 100000 in
theorem q_408 : (.methodLink RJ0 495 yJ1_charAt_3b067) ∈ GW := gw_t (List.mem_of_getElem? (i := 408) (by decide +kernel)) rfl
set_option maxRecDepth 100000 in
theorem q_409 : (.static yJ1_charAt_3b067) ∈ GW := gw_t (List.mem_of_getElem? (i := 409) (by decide +kernel)) rfl
set_option maxRecDepth 100000 in
theorem q_410 : (.code yJ1_charAt_3b067 cJ1_charAt_3b067 2 (some .char)) ∈ GW := gw_t (List.mem_of_getElem? (i := 410) (by decide +kernel)) rfl
set_option maxRecDepth 100000 in
theorem q_411 : (.methodLink RJ1 9 yJ0_checkIndex_df160) ∈ GW := gw_t (List.mem_of_getElem? (i := 411) (by decide +kernel)) rfl
set_option maxRecDepth 100000 in
theorem q_412 : (.static yJ0_checkIndex_df160) ∈ GW := gw_t (List.mem_of_getElem? (i := 412) (by decide +kernel)) rfl
set_option maxRecDepth 100000 in
theorem q_413 : (.code yJ0_checkIndex_df160 cJ0_checkIndex_df160 2 none) ∈ GW := gw_t (List.mem_of_getElem? (i := 413) (by decide +kernel)) rfl
set_option maxRecDepth 100000 in
theorem q_414 : (.fieldLink RJ0 1053 "jdk/internal/util/Preconditions" "SIOOBE_FORMATTER" "Ljava/util/function/BiFunction;") ∈ GW := gw_t (List.mem_of_getElem? (i := 414) (by decide +kernel)) rfl
set_option maxRecDepth 100000 in
theorem q_416 : (.methodLink RJ0 1059 yJ3_checkIndex_8e157) ∈ GW := gw_t (List.mem_of_getElem? (i := 416) (by decide +kernel)) rfl
set_option maxRecDepth 100000 in
theorem q_417 : (.static yJ3_checkIndex_8e157) ∈ GW := gw_t (List.mem_of_getElem? (i := 417) (by decide +kernel)) rfl
set_option maxRecDepth 100000 in
theorem q_418 : (.code yJ3_checkIndex_8e157 cJ3_checkIndex_8e157 3 (some .int)) ∈ GW := gw_t (List.mem_of_getElem? (i := 418) (by decide +kernel)) rfl
set_option maxRecDepth 100000 in
theorem q_419 : (.methodLink RJ0 498 yJ2_charAt_3b067) ∈ GW := gw_t (List.mem_of_getElem? (i := 419) (by decide +kernel)) rfl
set_option maxRecDepth 100000 in
theorem q_420 : (.static yJ2_charAt_3b067) ∈ GW := gw_t (List.mem_of_getElem? (i := 420) (by decide +kernel)) rfl
set_option maxRecDepth 100000 in
theorem q_421 : (.code yJ2_charAt_3b067 cJ2_charAt_3b067 2 (some .char)) ∈ GW := gw_t (List.mem_of_getElem? (i := 421) (by decide +kernel)) rfl
set_option maxRecDepth 100000 in
theorem q_422 : (.methodLink RJ2 67 yJ2_checkIndex_2214a) ∈ GW := gw_t (List.mem_of_getElem? (i := 422) (by decide +kernel)) rfl
set_option maxRecDepth 100000 in
theorem q_423 : (.static yJ2_checkIndex_2214a) ∈ GW := gw_t (List.mem_of_getElem? (i := 423) (by decide +kernel)) rfl
set_option maxRecDepth 100000 in
theorem q_424 : (.code yJ2_checkIndex_2214a cJ2_checkIndex_2214a 2 none) ∈ GW := gw_t (List.mem_of_getElem? (i := 424) (by decide +kernel)) rfl
set_option maxRecDepth 100000 in
theorem q_425 : (.methodLink RJ2 48 yJ2_length_9d52b) ∈ GW := gw_t (List.mem_of_getElem? (i := 425) (by decide +kernel)) rfl
set_option maxRecDepth 100000 in
theorem q_426 : (.static yJ2_length_9d52b) ∈ GW := gw_t (List.mem_of_getElem? (i := 426) (by decide +kernel)) rfl
set_option maxRecDepth 100000 in
theorem q_427 : (.code yJ2_length_9d52b cJ2_length_9d52b 1 (some .int)) ∈ GW := gw_t (List.mem_of_getElem? (i := 427) (by decide +kernel)) rfl
set_option maxRecDepth 100000 in
theorem q_428 : (.methodLink RJ2 414 yJ0_checkIndex_df160) ∈ GW := gw_t (List.mem_of_getElem? (i := 428) (by decide +kernel)) rfl
set_option maxRecDepth 100000 in
theorem q_429 : (.methodLink RJ2 71 yJ2_getChar_3b067) ∈ GW := gw_t (List.mem_of_getElem? (i := 429) (by decide +kernel)) rfl
set_option maxRecDepth 100000 in
theorem q_430 : (.static yJ2_getChar_3b067) ∈ GW := gw_t (List.mem_of_getElem? (i := 430) (by decide +kernel)) rfl
set_option maxRecDepth 100000 in
theorem q_431 : (.code yJ2_getChar_3b067 cJ2_getChar_3b067 2 (some .char)) ∈ GW := gw_t (List.mem_of_getElem? (i := 431) (by decide +kernel)) rfl
set_option maxRecDepth 100000 in
theorem q_432 : (.fieldLink RJ2 44 "java/lang/StringUTF16" "$assertionsDisabled" "Z") ∈ GW := gw_t (List.mem_of_getElem? (i := 432) (by decide +kernel)) rfl
set_option maxRecDepth 100000 in
theorem q_434 : (.fieldLink RJ2 59 "java/lang/StringUTF16" "HI_BYTE_SHIFT" "I") ∈ GW := gw_t (List.mem_of_getElem? (i := 434) (by decide +kernel)) rfl
set_option maxRecDepth 100000 in
theorem q_436 : (.fieldLink RJ2 63 "java/lang/StringUTF16" "LO_BYTE_SHIFT" "I") ∈ GW := gw_t (List.mem_of_getElem? (i := 436) (by decide +kernel)) rfl
set_option maxRecDepth 100000 in
theorem q_442 : (.methodLink RX2 49 yX2_readNumber) ∈ GW := gw_t (List.mem_of_getElem? (i := 442) (by decide +kernel)) rfl
set_option maxRecDepth 100000 in
theorem q_443 : (.instanceMethod yX2_readNumber) ∈ GW := gw_t (List.mem_of_getElem? (i := 443) (by decide +kernel)) rfl
set_option maxRecDepth 100000 in
theorem q_444 : (.selects RX2 yX2_readNumber yX2_readNumber) ∈ GW := gw_t (List.mem_of_getElem? (i := 444) (by decide +kernel)) rfl
set_option maxRecDepth 100000 in
theorem q_445 : (.code yX2_readNumber cX2_readNumber 5 (some .int)) ∈ GW := gw_t (List.mem_of_getElem? (i := 445) (by decide +kernel)) rfl
set_option maxRecDepth 100000 in
theorem q_447 : (.methodLink RX2 71 yX2_digit) ∈ GW := gw_t (List.mem_of_getElem? (i := 447) (by decide +kernel)) rfl
set_option maxRecDepth 100000 in
theorem q_448 : (.instanceMethod yX2_digit) ∈ GW := gw_t (List.mem_of_getElem? (i := 448) (by decide +kernel)) rfl
set_option maxRecDepth 100000 in
theorem q_449 : (.selects RX2 yX2_digit yX2_digit) ∈ GW := gw_t (List.mem_of_getElem? (i := 449) (by decide +kernel)) rfl
set_option maxRecDepth 100000 in
theorem q_450 : (.code yX2_digit cX2_digit 2 (some .int)) ∈ GW := gw_t (List.mem_of_getElem? (i := 450) (by decide +kernel)) rfl
set_option maxRecDepth 100000 in
theorem q_452 : (.arrayClass .byte) ∈ GW := gw_t (List.mem_of_getElem? (i := 452) (by decide +kernel)) rfl
set_option maxRecDepth 100000 in
theorem q_453 : (.methodLink RL 28 yX5_pin) ∈ GW := gw_t (List.mem_of_getElem? (i := 453) (by decide +kernel)) rfl
set_option maxRecDepth 100000 in
theorem q_454 : (.instanceMethod yX5_pin) ∈ GW := gw_t (List.mem_of_getElem? (i := 454) (by decide +kernel)) rfl
set_option maxRecDepth 100000 in
theorem q_455 : (.selects RX5 yX5_pin yX5_pin) ∈ GW := gw_t (List.mem_of_getElem? (i := 455) (by decide +kernel)) rfl
set_option maxRecDepth 100000 in
theorem q_456 : (.code yX5_pin cX5_pin 3 (some .int)) ∈ GW := gw_t (List.mem_of_getElem? (i := 456) (by decide +kernel)) rfl
set_option maxRecDepth 100000 in
theorem q_457 : (.methodLink RX5 89 yX5_hasPlan) ∈ GW := gw_t (List.mem_of_getElem? (i := 457) (by decide +kernel)) rfl
set_option maxRecDepth 100000 in
theorem q_459 : (.instanceMethod yX5_hasPlan) ∈ GW := gw_t (List.mem_of_getElem? (i := 459) (by decide +kernel)) rfl
set_option maxRecDepth 100000 in
theorem q_460 : (.code yX5_hasPlan cX5_hasPlan 2 (some .boolean)) ∈ GW := gw_t (List.mem_of_getElem? (i := 460) (by decide +kernel)) rfl
set_option maxRecDepth 100000 in
theorem q_461 : (.methodLink RX5 101 yX3_pinnedPlans) ∈ GW := gw_t (List.mem_of_getElem? (i := 461) (by decide +kernel)) rfl
set_option maxRecDepth 100000 in
theorem q_462 : (.methodLink RL 33 yX5_throwOut) ∈ GW := gw_t (List.mem_of_getElem? (i := 462) (by decide +kernel)) rfl
set_option maxRecDepth 100000 in
theorem q_463 : (.instanceMethod yX5_throwOut) ∈ GW := gw_t (List.mem_of_getElem? (i := 463) (by decide +kernel)) rfl
set_option maxRecDepth 100000 in
theorem q_464 : (.selects RX5 yX5_throwOut yX5_throwOut) ∈ GW := gw_t (List.mem_of_getElem? (i := 464) (by decide +kernel)) rfl
set_option maxRecDepth 100000 in
theorem q_465 : (.code yX5_throwOut cX5_throwOut 2 (some .int)) ∈ GW := gw_t (List.mem_of_getElem? (i := 465) (by decide +kernel)) rfl
set_option maxRecDepth 100000 in
theorem q_466 : (.methodLink RX5 107 yX3_keptPlans) ∈ GW := gw_t (List.mem_of_getElem? (i := 466) (by decide +kernel)) rfl
set_option maxRecDepth 100000 in
theorem q_467 : (.methodLink RL 38 yX5_make) ∈ GW := gw_t (List.mem_of_getElem? (i := 467) (by decide +kernel)) rfl
set_option maxRecDepth 100000 in
theorem q_468 : (.instanceMethod yX5_make) ∈ GW := gw_t (List.mem_of_getElem? (i := 468) (by decide +kernel)) rfl
set_option maxRecDepth 100000 in
theorem q_469 : (.selects RX5 yX5_make yX5_make) ∈ GW := gw_t (List.mem_of_getElem? (i := 469) (by decide +kernel)) rfl
set_option maxRecDepth 100000 in
theorem q_470 : (.code yX5_make cX5_make 6 (some .int)) ∈ GW := gw_t (List.mem_of_getElem? (i := 470) (by decide +kernel)) rfl
set_option maxRecDepth 100000 in
theorem q_471 : (.methodLink RX5 110 yX5_isWay) ∈ GW := gw_t (List.mem_of_getElem? (i := 471) (by decide +kernel)) rfl
set_option maxRecDepth 100000 in
theorem q_472 : (.static yX5_isWay) ∈ GW := gw_t (List.mem_of_getElem? (i := 472) (by decide +kernel)) rfl
set_option maxRecDepth 100000 in
theorem q_473 : (.code yX5_isWay cX5_isWay 1 (some .boolean)) ∈ GW := gw_t (List.mem_of_getElem? (i := 473) (by decide +kernel)) rfl
set_option maxRecDepth 100000 in
theorem q_474 : (.constant RX5 113 (99999 : Int32)) ∈ GW := gw_t (List.mem_of_getElem? (i := 474) (by decide +kernel)) rfl
set_option maxRecDepth 100000 in
theorem q_475 : (.methodLink RX5 114 yX3_couldKeep) ∈ GW := gw_t (List.mem_of_getElem? (i := 475) (by decide +kernel)) rfl
set_option maxRecDepth 100000 in
theorem q_476 : (.methodLink RX5 117 yX3_makeRoomFor) ∈ GW := gw_t (List.mem_of_getElem? (i := 476) (by decide +kernel)) rfl
set_option maxRecDepth 100000 in
theorem q_477 : (.methodLink RX5 121 yX3_place) ∈ GW := gw_t (List.mem_of_getElem? (i := 477) (by decide +kernel)) rfl
set_option maxRecDepth 100000 in
theorem q_478 : (.methodLink RL 43 yX5_set) ∈ GW := gw_t (List.mem_of_getElem? (i := 478) (by decide +kernel)) rfl
set_option maxRecDepth 100000 in
theorem q_479 : (.instanceMethod yX5_set) ∈ GW := gw_t (List.mem_of_getElem? (i := 479) (by decide +kernel)) rfl
set_option maxRecDepth 100000 in
theorem q_480 : (.selects RX5 yX5_set yX5_set) ∈ GW := gw_t (List.mem_of_getElem? (i := 480) (by decide +kernel)) rfl
set_option maxRecDepth 100000 in
theorem q_481 : (.code yX5_set cX5_set 4 (some .int)) ∈ GW := gw_t (List.mem_of_getElem? (i := 481) (by decide +kernel)) rfl
set_option maxRecDepth 100000 in
theorem q_482 : (.fieldLink RX5 125 "KeptPlans" "LEAST_SETTING" "[I") ∈ GW := gw_t (List.mem_of_getElem? (i := 482) (by decide +kernel)) rfl
set_option maxRecDepth 100000 in
theorem q_484 : (.fieldLink RX5 128 "KeptPlans" "MOST_SETTING" "[I") ∈ GW := gw_t (List.mem_of_getElem? (i := 484) (by decide +kernel)) rfl
set_option maxRecDepth 100000 in
theorem q_486 : (.methodLink RX5 134 yX3_crowdOutDownTo) ∈ GW := gw_t (List.mem_of_getElem? (i := 486) (by decide +kernel)) rfl
set_option maxRecDepth 100000 in
theorem q_487 : (.methodLink RL 47 yX5_type) ∈ GW := gw_t (List.mem_of_getElem? (i := 487) (by decide +kernel)) rfl
set_option maxRecDepth 100000 in
theorem q_488 : (.instanceMethod yX5_type) ∈ GW := gw_t (List.mem_of_getElem? (i := 488) (by decide +kernel)) rfl
set_option maxRecDepth 100000 in
theorem q_489 : (.selects RX5 yX5_type yX5_type) ∈ GW := gw_t (List.mem_of_getElem? (i := 489) (by decide +kernel)) rfl
set_option maxRecDepth 100000 in
theorem q_490 : (.code yX5_type cX5_type 2 (some .int)) ∈ GW := gw_t (List.mem_of_getElem? (i := 490) (by decide +kernel)) rfl
set_option maxRecDepth 100000 in
theorem q_491 : (.methodLink RL 52 yX5_clearText) ∈ GW := gw_t (List.mem_of_getElem? (i := 491) (by decide +kernel)) rfl
set_option maxRecDepth 100000 in
theorem q_492 : (.instanceMethod yX5_clearText) ∈ GW := gw_t (List.mem_of_getElem? (i := 492) (by decide +kernel)) rfl
set_option maxRecDepth 100000 in
theorem q_493 : (.selects RX5 yX5_clearText yX5_clearText) ∈ GW := gw_t (List.mem_of_getElem? (i := 493) (by decide +kernel)) rfl
set_option maxRecDepth 100000 in
theorem q_494 : (.code yX5_clearText cX5_clearText 2 (some .int)) ∈ GW := gw_t (List.mem_of_getElem? (i := 494) (by decide +kernel)) rfl
set_option maxRecDepth 100000 in
theorem q_495 : (.methodLink RL 56 yX5_undo) ∈ GW := gw_t (List.mem_of_getElem? (i := 495) (by decide +kernel)) rfl
set_option maxRecDepth 100000 in
theorem q_496 : (.instanceMethod yX5_undo) ∈ GW := gw_t (List.mem_of_getElem? (i := 496) (by decide +kernel)) rfl
set_option maxRecDepth 100000 in
theorem q_497 : (.selects RX5 yX5_undo yX5_undo) ∈ GW := gw_t (List.mem_of_getElem? (i := 497) (by decide +kernel)) rfl
set_option maxRecDepth 100000 in
theorem q_498 : (.code yX5_undo cX5_undo 1 (some .int)) ∈ GW := gw_t (List.mem_of_getElem? (i := 498) (by decide +kernel)) rfl
set_option maxRecDepth 100000 in
theorem q_499 : (.methodLink RX5 147 yX0_takeBack) ∈ GW := gw_t (List.mem_of_getElem? (i := 499) (by decide +kernel)) rfl
set_option maxRecDepth 100000 in
theorem q_500 : (.instanceMethod yX0_takeBack) ∈ GW := gw_t (List.mem_of_getElem? (i := 500) (by decide +kernel)) rfl
set_option maxRecDepth 100000 in
theorem q_501 : (.selects RX0 yX0_takeBack yX0_takeBack) ∈ GW := gw_t (List.mem_of_getElem? (i := 501) (by decide +kernel)) rfl
set_option maxRecDepth 100000 in
theorem q_502 : (.code yX0_takeBack cX0_takeBack 2 none) ∈ GW := gw_t (List.mem_of_getElem? (i := 502) (by decide +kernel)) rfl
set_option maxRecDepth 100000 in
theorem q_503 : (.methodLink RL 60 yX5_keep) ∈ GW := gw_t (List.mem_of_getElem? (i := 503) (by decide +kernel)) rfl
set_option maxRecDepth 100000 in
theorem q_504 : (.instanceMethod yX5_keep) ∈ GW := gw_t (List.mem_of_getElem? (i := 504) (by decide +kernel)) rfl
set_option maxRecDepth 100000 in
theorem q_505 : (.selects RX5 yX5_keep yX5_keep) ∈ GW := gw_t (List.mem_of_getElem? (i := 505) (by decide +kernel)) rfl
set_option maxRecDepth 100000 in
theorem q_506 : (.code yX5_keep cX5_keep 1 (some .int)) ∈ GW := gw_t (List.mem_of_getElem? (i := 506) (by decide +kernel)) rfl
set_option maxRecDepth 100000 in
theorem q_507 : (.methodLink RX5 150 yX3_copyFrom) ∈ GW := gw_t (List.mem_of_getElem? (i := 507) (by decide +kernel)) rfl
set_option maxRecDepth 100000 in
theorem q_508 : (.methodLink RL 64 yX5_restore) ∈ GW := gw_t (List.mem_of_getElem? (i := 508) (by decide +kernel)) rfl
set_option maxRecDepth 100000 in
theorem q_509 : (.instanceMethod yX5_restore) ∈ GW := gw_t (List.mem_of_getElem? (i := 509) (by decide +kernel)) rfl
set_option maxRecDepth 100000 in
theorem q_510 : (.selects RX5 yX5_restore yX5_restore) ∈ GW := gw_t (List.mem_of_getElem? (i := 510) (by decide +kernel)) rfl
set_option maxRecDepth 100000 in
theorem q_511 : (.code yX5_restore cX5_restore 1 (some .int)) ∈ GW := gw_t (List.mem_of_getElem? (i := 511) (by decide +kernel)) rfl
set_option maxRecDepth 100000 in
theorem q_512 : (.methodLink RL 68 yX5_cost) ∈ GW := gw_t (List.mem_of_getElem? (i := 512) (by decide +kernel)) rfl
set_option maxRecDepth 100000 in
theorem q_513 : (.instanceMethod yX5_cost) ∈ GW := gw_t (List.mem_of_getElem? (i := 513) (by decide +kernel)) rfl
set_option maxRecDepth 100000 in
theorem q_514 : (.selects RX5 yX5_cost yX5_cost) ∈ GW := gw_t (List.mem_of_getElem? (i := 514) (by decide +kernel)) rfl
set_option maxRecDepth 100000 in
theorem q_515 : (.code yX5_cost cX5_cost 4 (some .int)) ∈ GW := gw_t (List.mem_of_getElem? (i := 515) (by decide +kernel)) rfl
set_option maxRecDepth 100000 in
theorem q_516 : (.methodLink RX5 153 yX3_priceBy) ∈ GW := gw_t (List.mem_of_getElem? (i := 516) (by decide +kernel)) rfl
set_option maxRecDepth 100000 in
theorem q_517 : (.methodLink RL 73 yX5_cheapest) ∈ GW := gw_t (List.mem_of_getElem? (i := 517) (by decide +kernel)) rfl
set_option maxRecDepth 100000 in
theorem q_518 : (.instanceMethod yX5_cheapest) ∈ GW := gw_t (List.mem_of_getElem? (i := 518) (by decide +kernel)) rfl
set_option maxRecDepth 100000 in
theorem q_519 : (.selects RX5 yX5_cheapest yX5_cheapest) ∈ GW := gw_t (List.mem_of_getElem? (i := 519) (by decide +kernel)) rfl
set_option maxRecDepth 100000 in
theorem q_520 : (.code yX5_cheapest cX5_cheapest 3 (some .int)) ∈ GW := gw_t (List.mem_of_getElem? (i := 520) (by decide +kernel)) rfl
set_option maxRecDepth 100000 in
theorem q_521 : (.methodLink RX5 157 yX3_cheapestWay) ∈ GW := gw_t (List.mem_of_getElem? (i := 521) (by decide +kernel)) rfl
set_option maxRecDepth 100000 in
theorem q_522 : (.methodLink RL 77 yX5_plan) ∈ GW := gw_t (List.mem_of_getElem? (i := 522) (by decide +kernel)) rfl
set_option maxRecDepth 100000 in
theorem q_523 : (.instanceMethod yX5_plan) ∈ GW := gw_t (List.mem_of_getElem? (i := 523) (by decide +kernel)) rfl
set_option maxRecDepth 100000 in
theorem q_524 : (.selects RX5 yX5_plan yX5_plan) ∈ GW := gw_t (List.mem_of_getElem? (i := 524) (by decide +kernel)) rfl
set_option maxRecDepth 100000 in
theorem q_525 : (.code yX5_plan cX5_plan 4 (some .int)) ∈ GW := gw_t (List.mem_of_getElem? (i := 525) (by decide +kernel)) rfl
set_option maxRecDepth 100000 in
theorem q_526 : (.methodLink RX5 181 yX3_isStale) ∈ GW := gw_t (List.mem_of_getElem? (i := 526) (by decide +kernel)) rfl
set_option maxRecDepth 100000 in
theorem q_527 : (.instanceMethod yX3_isStale) ∈ GW := gw_t (List.mem_of_getElem? (i := 527) (by decide +kernel)) rfl
set_option maxRecDepth 100000 in
theorem q_528 : (.selects RX3 yX3_isStale yX3_isStale) ∈ GW := gw_t (List.mem_of_getElem? (i := 528) (by decide +kernel)) rfl
set_option maxRecDepth 100000 in
theorem q_529 : (.code yX3_isStale cX3_isStale 2 (some .boolean)) ∈ GW := gw_t (List.mem_of_getElem? (i := 529) (by decide +kernel)) rfl
set_option maxRecDepth 100000 in
theorem q_530 : (.methodLink RL 81 yX5_reason) ∈ GW := gw_t (List.mem_of_getElem? (i := 530) (by decide +kernel)) rfl
set_option maxRecDepth 100000 in
theorem q_531 : (.instanceMethod yX5_reason) ∈ GW := gw_t (List.mem_of_getElem? (i := 531) (by decide +kernel)) rfl
set_option maxRecDepth 100000 in
theorem q_532 : (.selects RX5 yX5_reason yX5_reason) ∈ GW := gw_t (List.mem_of_getElem? (i := 532) (by decide +kernel)) rfl
set_option maxRecDepth 100000 in
theorem q_533 : (.code yX5_reason cX5_reason 3 (some .int)) ∈ GW := gw_t (List.mem_of_getElem? (i := 533) (by decide +kernel)) rfl
set_option maxRecDepth 100000 in
theorem q_534 : (.methodLink RX5 191 yX3_whyNotUsed) ∈ GW := gw_t (List.mem_of_getElem? (i := 534) (by decide +kernel)) rfl
set_option maxRecDepth 100000 in
theorem q_535 : (.methodLink RL 85 yX5_ifAsked) ∈ GW := gw_t (List.mem_of_getElem? (i := 535) (by decide +kernel)) rfl
set_option maxRecDepth 100000 in
theorem q_536 : (.instanceMethod yX5_ifAsked) ∈ GW := gw_t (List.mem_of_getElem? (i := 536) (by decide +kernel)) rfl
set_option maxRecDepth 100000 in
theorem q_537 : (.selects RX5 yX5_ifAsked yX5_ifAsked) ∈ GW := gw_t (List.mem_of_getElem? (i := 537) (by decide +kernel)) rfl
set_option maxRecDepth 100000 in
theorem q_538 : (.code yX5_ifAsked cX5_ifAsked 9 (some .int)) ∈ GW := gw_t (List.mem_of_getElem? (i := 538) (by decide +kernel)) rfl
set_option maxRecDepth 100000 in
theorem q_539 : (.methodLink RX5 194 yX3_isTooDear) ∈ GW := gw_t (List.mem_of_getElem? (i := 539) (by decide +kernel)) rfl
set_option maxRecDepth 100000 in
theorem q_540 : (.methodLink RX5 197 yX3_firstCrowdedOutBy) ∈ GW := gw_t (List.mem_of_getElem? (i := 540) (by decide +kernel)) rfl
set_option maxRecDepth 100000 in
theorem q_541 : (.instanceMethod yX3_firstCrowdedOutBy) ∈ GW := gw_t (List.mem_of_getElem? (i := 541) (by decide +kernel)) rfl
set_option maxRecDepth 100000 in
theorem q_542 : (.selects RX3 yX3_firstCrowdedOutBy yX3_firstCrowdedOutBy) ∈ GW := gw_t (List.mem_of_getElem? (i := 542) (by decide +kernel)) rfl
set_option maxRecDepth 100000 in
theorem q_543 : (.code yX3_firstCrowdedOutBy cX3_firstCrowdedOutBy 2 (some .int)) ∈ GW := gw_t (List.mem_of_getElem? (i := 543) (by decide +kernel)) rfl
set_option maxRecDepth 100000 in
theorem q_544 : (.methodLink RL 89 yX5_reach) ∈ GW := gw_t (List.mem_of_getElem? (i := 544) (by decide +kernel)) rfl
set_option maxRecDepth 100000 in
theorem q_545 : (.instanceMethod yX5_reach) ∈ GW := gw_t (List.mem_of_getElem? (i := 545) (by decide +kernel)) rfl
set_option maxRecDepth 100000 in
theorem q_546 : (.selects RX5 yX5_reach yX5_reach) ∈ GW := gw_t (List.mem_of_getElem? (i := 546) (by decide +kernel)) rfl
set_option maxRecDepth 100000 in
theorem q_547 : (.code yX5_reach cX5_reach 5 (some .int)) ∈ GW := gw_t (List.mem_of_getElem? (i := 547) (by decide +kernel)) rfl
set_option maxRecDepth 100000 in
theorem q_548 : (.methodLink RL 93 yX5_oldest) ∈ GW := gw_t (List.mem_of_getElem? (i := 548) (by decide +kernel)) rfl
set_option maxRecDepth 100000 in
theorem q_549 : (.instanceMethod yX5_oldest) ∈ GW := gw_t (List.mem_of_getElem? (i := 549) (by decide +kernel)) rfl
set_option maxRecDepth 100000 in
theorem q_550 : (.selects RX5 yX5_oldest yX5_oldest) ∈ GW := gw_t (List.mem_of_getElem? (i := 550) (by decide +kernel)) rfl
set_option maxRecDepth 100000 in
theorem q_551 : (.code yX5_oldest cX5_oldest 1 (some .int)) ∈ GW := gw_t (List.mem_of_getElem? (i := 551) (by decide +kernel)) rfl
set_option maxRecDepth 100000 in
theorem q_552 : (.methodLink RX5 204 yX3_oldestUnpinned) ∈ GW := gw_t (List.mem_of_getElem? (i := 552) (by decide +kernel)) rfl
set_option maxRecDepth 100000 in
theorem q_553 : (.methodLink RL 97 yX5_tableOf) ∈ GW := gw_t (List.mem_of_getElem? (i := 553) (by decide +kernel)) rfl
set_option maxRecDepth 100000 in
theorem q_554 : (.instanceMethod yX5_tableOf) ∈ GW := gw_t (List.mem_of_getElem? (i := 554) (by decide +kernel)) rfl
set_option maxRecDepth 100000 in
theorem q_555 : (.selects RX5 yX5_tableOf yX5_tableOf) ∈ GW := gw_t (List.mem_of_getElem? (i := 555) (by decide +kernel)) rfl
set_option maxRecDepth 100000 in
theorem q_556 : (.code yX5_tableOf cX5_tableOf 4 (some .int)) ∈ GW := gw_t (List.mem_of_getElem? (i := 556) (by decide +kernel)) rfl
set_option maxRecDepth 100000 in
theorem q_557 : (.methodLink RX5 207 yX3_keptPlansOf) ∈ GW := gw_t (List.mem_of_getElem? (i := 557) (by decide +kernel)) rfl
set_option maxRecDepth 100000 in
theorem q_558 : (.instanceMethod yX3_keptPlansOf) ∈ GW := gw_t (List.mem_of_getElem? (i := 558) (by decide +kernel)) rfl
set_option maxRecDepth 100000 in
theorem q_559 : (.selects RX3 yX3_keptPlansOf yX3_keptPlansOf) ∈ GW := gw_t (List.mem_of_getElem? (i := 559) (by decide +kernel)) rfl
set_option maxRecDepth 100000 in
theorem q_560 : (.code yX3_keptPlansOf cX3_keptPlansOf 4 (some .int)) ∈ GW := gw_t (List.mem_of_getElem? (i := 560) (by decide +kernel)) rfl
set_option maxRecDepth 100000 in
theorem q_561 : (.methodLink RL 101 yX5_count) ∈ GW := gw_t (List.mem_of_getElem? (i := 561) (by decide +kernel)) rfl
set_option maxRecDepth 100000 in
theorem q_562 : (.instanceMethod yX5_count) ∈ GW := gw_t (List.mem_of_getElem? (i := 562) (by decide +kernel)) rfl
set_option maxRecDepth 100000 in
theorem q_563 : (.selects RX5 yX5_count yX5_count) ∈ GW := gw_t (List.mem_of_getElem? (i := 563) (by decide +kernel)) rfl
set_option maxRecDepth 100000 in
theorem q_564 : (.code yX5_count cX5_count 2 (some .int)) ∈ GW := gw_t (List.mem_of_getElem? (i := 564) (by decide +kernel)) rfl
set_option maxRecDepth 100000 in
theorem q_565 : (.methodLink RX5 214 yX3_stalePlans) ∈ GW := gw_t (List.mem_of_getElem? (i := 565) (by decide +kernel)) rfl
set_option maxRecDepth 100000 in
theorem q_566 : (.instanceMethod yX3_stalePlans) ∈ GW := gw_t (List.mem_of_getElem? (i := 566) (by decide +kernel)) rfl
set_option maxRecDepth 100000 in
theorem q_567 : (.selects RX3 yX3_stalePlans yX3_stalePlans) ∈ GW := gw_t (List.mem_of_getElem? (i := 567) (by decide +kernel)) rfl
set_option maxRecDepth 100000 in
theorem q_568 : (.code yX3_stalePlans cX3_stalePlans 3 (some .int)) ∈ GW := gw_t (List.mem_of_getElem? (i := 568) (by decide +kernel)) rfl
set_option maxRecDepth 100000 in
theorem q_569 : (.methodLink RX3 176 yX3_isStale) ∈ GW := gw_t (List.mem_of_getElem? (i := 569) (by decide +kernel)) rfl
set_option maxRecDepth 100000 in
theorem q_570 : (.classLink RL 10 "KeptPlansModel") ∈ GW := gw_t (List.mem_of_getElem? (i := 570) (by decide +kernel)) rfl
set_option maxRecDepth 100000 in
theorem q_571 : (.instantiable RX6 12) ∈ GW := gw_t (List.mem_of_getElem? (i := 571) (by decide +kernel)) rfl
set_option maxRecDepth 100000 in
theorem q_572 : (.methodLink RL 12 yX6_init) ∈ GW := gw_t (List.mem_of_getElem? (i := 572) (by decide +kernel)) rfl
set_option maxRecDepth 100000 in
theorem q_573 : (.instanceMethod yX6_init) ∈ GW := gw_t (List.mem_of_getElem? (i := 573) (by decide +kernel)) rfl
set_option maxRecDepth 100000 in
theorem q_574 : (.code yX6_init cX6_init 2 none) ∈ GW := gw_t (List.mem_of_getElem? (i := 574) (by decide +kernel)) rfl
set_option maxRecDepth 100000 in
theorem q_575 : (.methodLink RX6 1 objectInit) ∈ GW := gw_t (List.mem_of_getElem? (i := 575) (by decide +kernel)) rfl
set_option maxRecDepth 100000 in
theorem q_576 : (.fieldLink RX6 7 "KeptPlansModel" "s" "[I") ∈ GW := gw_t (List.mem_of_getElem? (i := 576) (by decide +kernel)) rfl
set_option maxRecDepth 100000 in
theorem q_577 : (.fieldLink RX6 21 "KeptPlansModel" "states" "I") ∈ GW := gw_t (List.mem_of_getElem? (i := 577) (by decide +kernel)) rfl
set_option maxRecDepth 100000 in
theorem q_578 : (.fieldLink RX6 153 "KeptPlansModel" "isKept" "Z") ∈ GW := gw_t (List.mem_of_getElem? (i := 578) (by decide +kernel)) rfl
set_option maxRecDepth 100000 in
theorem q_579 : (.fieldLink RX6 13 "KeptPlansModel" "text" "[C") ∈ GW := gw_t (List.mem_of_getElem? (i := 579) (by decide +kernel)) rfl
set_option maxRecDepth 100000 in
theorem q_580 : (.fieldLink RX6 102 "KeptPlansModel" "typed" "I") ∈ GW := gw_t (List.mem_of_getElem? (i := 580) (by decide +kernel)) rfl
set_option maxRecDepth 100000 in
theorem q_581 : (.fieldLink RX6 99 "KeptPlansModel" "at" "I") ∈ GW := gw_t (List.mem_of_getElem? (i := 581) (by decide +kernel)) rfl
set_option maxRecDepth 100000 in
theorem q_582 : (.fieldLink RX6 112 "KeptPlansModel" "order" "I") ∈ GW := gw_t (List.mem_of_getElem? (i := 582) (by decide +kernel)) rfl
set_option maxRecDepth 100000 in
theorem q_583 : (.fieldLink RX6 123 "KeptPlansModel" "table" "I") ∈ GW := gw_t (List.mem_of_getElem? (i := 583) (by decide +kernel)) rfl
set_option maxRecDepth 100000 in
theorem q_584 : (.fieldLink RX6 126 "KeptPlansModel" "number" "I") ∈ GW := gw_t (List.mem_of_getElem? (i := 584) (by decide +kernel)) rfl
set_option maxRecDepth 100000 in
theorem q_585 : (.fieldLink RX6 72 "KeptPlansModel" "way" "I") ∈ GW := gw_t (List.mem_of_getElem? (i := 585) (by decide +kernel)) rfl
set_option maxRecDepth 100000 in
theorem q_586 : (.fieldLink RX6 75 "KeptPlansModel" "isBad" "Z") ∈ GW := gw_t (List.mem_of_getElem? (i := 586) (by decide +kernel)) rfl
set_option maxRecDepth 100000 in
theorem q_587 : (.fieldLink RX6 55 "KeptPlansModel" "gone" "I") ∈ GW := gw_t (List.mem_of_getElem? (i := 587) (by decide +kernel)) rfl
set_option maxRecDepth 100000 in
theorem q_613 : (.methodLink RL 17 yX6_table) ∈ GW := gw_t (List.mem_of_getElem? (i := 613) (by decide +kernel)) rfl
set_option maxRecDepth 100000 in
theorem q_614 : (.instanceMethod yX6_table) ∈ GW := gw_t (List.mem_of_getElem? (i := 614) (by decide +kernel)) rfl
set_option maxRecDepth 100000 in
theorem q_615 : (.selects RX6 yX6_table yX6_table) ∈ GW := gw_t (List.mem_of_getElem? (i := 615) (by decide +kernel)) rfl
set_option maxRecDepth 100000 in
theorem q_616 : (.code yX6_table cX6_table 6 (some .int)) ∈ GW := gw_t (List.mem_of_getElem? (i := 616) (by decide +kernel)) rfl
set_option maxRecDepth 100000 in
theorem q_617 : (.methodLink RX6 17 yX6_in) ∈ GW := gw_t (List.mem_of_getElem? (i := 617) (by decide +kernel)) rfl
set_option maxRecDepth 100000 in
theorem q_618 : (.static yX6_in) ∈ GW := gw_t (List.mem_of_getElem? (i := 618) (by decide +kernel)) rfl
set_option maxRecDepth 100000 in
theorem q_619 : (.code yX6_in cX6_in 3 (some .boolean)) ∈ GW := gw_t (List.mem_of_getElem? (i := 619) (by decide +kernel)) rfl
set_option maxRecDepth 100000 in
theorem q_620 : (.methodLink RX6 86 yX6_records) ∈ GW := gw_t (List.mem_of_getElem? (i := 620) (by decide +kernel)) rfl
set_option maxRecDepth 100000 in
theorem q_622 : (.instanceMethod yX6_records) ∈ GW := gw_t (List.mem_of_getElem? (i := 622) (by decide +kernel)) rfl
set_option maxRecDepth 100000 in
theorem q_623 : (.code yX6_records cX6_records 2 none) ∈ GW := gw_t (List.mem_of_getElem? (i := 623) (by decide +kernel)) rfl
set_option maxRecDepth 100000 in
theorem q_624 : (.methodLink RX6 25 yX6_copies) ∈ GW := gw_t (List.mem_of_getElem? (i := 624) (by decide +kernel)) rfl
set_option maxRecDepth 100000 in
theorem q_626 : (.instanceMethod yX6_copies) ∈ GW := gw_t (List.mem_of_getElem? (i := 626) (by decide +kernel)) rfl
set_option maxRecDepth 100000 in
theorem q_627 : (.code yX6_copies cX6_copies 4 none) ∈ GW := gw_t (List.mem_of_getElem? (i := 627) (by decide +kernel)) rfl
set_option maxRecDepth 100000 in
theorem q_628 : (.methodLink RL 22 yX6_ask) ∈ GW := gw_t (List.mem_of_getElem? (i := 628) (by decide +kernel)) rfl
set_option maxRecDepth 100000 in
theorem q_629 : (.instanceMethod yX6_ask) ∈ GW := gw_t (List.mem_of_getElem? (i := 629) (by decide +kernel)) rfl
set_option maxRecDepth 100000 in
theorem q_630 : (.selects RX6 yX6_ask yX6_ask) ∈ GW := gw_t (List.mem_of_getElem? (i := 630) (by decide +kernel)) rfl
set_option maxRecDepth 100000 in
theorem q_631 : (.code yX6_ask cX6_ask 3 (some .int)) ∈ GW := gw_t (List.mem_of_getElem? (i := 631) (by decide +kernel)) rfl
set_option maxRecDepth 100000 in
theorem q_632 : (.methodLink RX6 89 yX6_isShape) ∈ GW := gw_t (List.mem_of_getElem? (i := 632) (by decide +kernel)) rfl
set_option maxRecDepth 100000 in
theorem q_633 : (.static yX6_isShape) ∈ GW := gw_t (List.mem_of_getElem? (i := 633) (by decide +kernel)) rfl
set_option maxRecDepth 100000 in
theorem q_634 : (.code yX6_isShape cX6_isShape 1 (some .boolean)) ∈ GW := gw_t (List.mem_of_getElem? (i := 634) (by decide +kernel)) rfl
set_option maxRecDepth 100000 in
theorem q_635 : (.methodLink RX6 93 yX6_isNumber) ∈ GW := gw_t (List.mem_of_getElem? (i := 635) (by decide +kernel)) rfl
set_option maxRecDepth 100000 in
theorem q_636 : (.static yX6_isNumber) ∈ GW := gw_t (List.mem_of_getElem? (i := 636) (by decide +kernel)) rfl
set_option maxRecDepth 100000 in
theorem q_637 : (.code yX6_isNumber cX6_isNumber 2 (some .boolean)) ∈ GW := gw_t (List.mem_of_getElem? (i := 637) (by decide +kernel)) rfl
set_option maxRecDepth 100000 in
theorem q_638 : (.methodLink RX6 96 yX6_asks) ∈ GW := gw_t (List.mem_of_getElem? (i := 638) (by decide +kernel)) rfl
set_option maxRecDepth 100000 in
theorem q_640 : (.instanceMethod yX6_asks) ∈ GW := gw_t (List.mem_of_getElem? (i := 640) (by decide +kernel)) rfl
set_option maxRecDepth 100000 in
theorem q_641 : (.code yX6_asks cX6_asks 7 (some .int)) ∈ GW := gw_t (List.mem_of_getElem? (i := 641) (by decide +kernel)) rfl
set_option maxRecDepth 100000 in
theorem q_642 : (.methodLink RX6 38 yX6_planAt) ∈ GW := gw_t (List.mem_of_getElem? (i := 642) (by decide +kernel)) rfl
set_option maxRecDepth 100000 in
theorem q_643 : (.static yX6_planAt) ∈ GW := gw_t (List.mem_of_getElem? (i := 643) (by decide +kernel)) rfl
set_option maxRecDepth 100000 in
theorem q_644 : (.code yX6_planAt cX6_planAt 2 (some .int)) ∈ GW := gw_t (List.mem_of_getElem? (i := 644) (by decide +kernel)) rfl
set_option maxRecDepth 100000 in
theorem q_645 : (.methodLink RX6 65 yX6_why) ∈ GW := gw_t (List.mem_of_getElem? (i := 645) (by decide +kernel)) rfl
set_option maxRecDepth 100000 in
theorem q_647 : (.instanceMethod yX6_why) ∈ GW := gw_t (List.mem_of_getElem? (i := 647) (by decide +kernel)) rfl
set_option maxRecDepth 100000 in
theorem q_648 : (.code yX6_why cX6_why 5 (some .int)) ∈ GW := gw_t (List.mem_of_getElem? (i := 648) (by decide +kernel)) rfl
set_option maxRecDepth 100000 in
theorem q_649 : (.methodLink RX6 45 yX6_isChanged) ∈ GW := gw_t (List.mem_of_getElem? (i := 649) (by decide +kernel)) rfl
set_option maxRecDepth 100000 in
theorem q_651 : (.instanceMethod yX6_isChanged) ∈ GW := gw_t (List.mem_of_getElem? (i := 651) (by decide +kernel)) rfl
set_option maxRecDepth 100000 in
theorem q_652 : (.code yX6_isChanged cX6_isChanged 5 (some .boolean)) ∈ GW := gw_t (List.mem_of_getElem? (i := 652) (by decide +kernel)) rfl
set_option maxRecDepth 100000 in
theorem q_653 : (.methodLink RX6 49 yX6_isOld) ∈ GW := gw_t (List.mem_of_getElem? (i := 653) (by decide +kernel)) rfl
set_option maxRecDepth 100000 in
theorem q_655 : (.instanceMethod yX6_isOld) ∈ GW := gw_t (List.mem_of_getElem? (i := 655) (by decide +kernel)) rfl
set_option maxRecDepth 100000 in
theorem q_656 : (.code yX6_isOld cX6_isOld 3 (some .boolean)) ∈ GW := gw_t (List.mem_of_getElem? (i := 656) (by decide +kernel)) rfl
set_option maxRecDepth 100000 in
theorem q_657 : (.methodLink RX6 42 yX6_age) ∈ GW := gw_t (List.mem_of_getElem? (i := 657) (by decide +kernel)) rfl
set_option maxRecDepth 100000 in
theorem q_659 : (.instanceMethod yX6_age) ∈ GW := gw_t (List.mem_of_getElem? (i := 659) (by decide +kernel)) rfl
set_option maxRecDepth 100000 in
theorem q_660 : (.code yX6_age cX6_age 3 (some .int)) ∈ GW := gw_t (List.mem_of_getElem? (i := 660) (by decide +kernel)) rfl
set_option maxRecDepth 100000 in
theorem q_661 : (.methodLink RX6 69 yX6_cheapestOf) ∈ GW := gw_t (List.mem_of_getElem? (i := 661) (by decide +kernel)) rfl
set_option maxRecDepth 100000 in
theorem q_663 : (.instanceMethod yX6_cheapestOf) ∈ GW := gw_t (List.mem_of_getElem? (i := 663) (by decide +kernel)) rfl
set_option maxRecDepth 100000 in
theorem q_664 : (.code yX6_cheapestOf cX6_cheapestOf 6 (some .int)) ∈ GW := gw_t (List.mem_of_getElem? (i := 664) (by decide +kernel)) rfl
set_option maxRecDepth 100000 in
theorem q_665 : (.methodLink RX6 34 yX6_costs) ∈ GW := gw_t (List.mem_of_getElem? (i := 665) (by decide +kernel)) rfl
set_option maxRecDepth 100000 in
theorem q_667 : (.instanceMethod yX6_costs) ∈ GW := gw_t (List.mem_of_getElem? (i := 667) (by decide +kernel)) rfl
set_option maxRecDepth 100000 in
theorem q_668 : (.code yX6_costs cX6_costs 10 (some .int)) ∈ GW := gw_t (List.mem_of_getElem? (i := 668) (by decide +kernel)) rfl
set_option maxRecDepth 100000 in
theorem q_669 : (.methodLink RX6 29 yX6_bits) ∈ GW := gw_t (List.mem_of_getElem? (i := 669) (by decide +kernel)) rfl
set_option maxRecDepth 100000 in
theorem q_670 : (.static yX6_bits) ∈ GW := gw_t (List.mem_of_getElem? (i := 670) (by decide +kernel)) rfl
set_option maxRecDepth 100000 in
theorem q_671 : (.code yX6_bits cX6_bits 3 (some .int)) ∈ GW := gw_t (List.mem_of_getElem? (i := 671) (by decide +kernel)) rfl
set_option maxRecDepth 100000 in
theorem q_672 : (.constant RX6 33 (1000000 : Int32)) ∈ GW := gw_t (List.mem_of_getElem? (i := 672) (by decide +kernel)) rfl
set_option maxRecDepth 100000 in
theorem q_673 : (.methodLink RX6 79 yX6_hasRoom) ∈ GW := gw_t (List.mem_of_getElem? (i := 673) (by decide +kernel)) rfl
set_option maxRecDepth 100000 in
theorem q_675 : (.instanceMethod yX6_hasRoom) ∈ GW := gw_t (List.mem_of_getElem? (i := 675) (by decide +kernel)) rfl
set_option maxRecDepth 100000 in
theorem q_676 : (.code yX6_hasRoom cX6_hasRoom 3 (some .boolean)) ∈ GW := gw_t (List.mem_of_getElem? (i := 676) (by decide +kernel)) rfl
set_option maxRecDepth 100000 in
theorem q_677 : (.methodLink RX6 58 yX6_kept) ∈ GW := gw_t (List.mem_of_getElem? (i := 677) (by decide +kernel)) rfl
set_option maxRecDepth 100000 in
theorem q_679 : (.instanceMethod yX6_kept) ∈ GW := gw_t (List.mem_of_getElem? (i := 679) (by decide +kernel)) rfl
set_option maxRecDepth 100000 in
theorem q_680 : (.code yX6_kept cX6_kept 4 (some .int)) ∈ GW := gw_t (List.mem_of_getElem? (i := 680) (by decide +kernel)) rfl
set_option maxRecDepth 100000 in
theorem q_681 : (.methodLink RX6 52 yX6_oldestOf) ∈ GW := gw_t (List.mem_of_getElem? (i := 681) (by decide +kernel)) rfl
set_option maxRecDepth 100000 in
theorem q_683 : (.instanceMethod yX6_oldestOf) ∈ GW := gw_t (List.mem_of_getElem? (i := 683) (by decide +kernel)) rfl
set_option maxRecDepth 100000 in
theorem q_684 : (.code yX6_oldestOf cX6_oldestOf 6 (some .int)) ∈ GW := gw_t (List.mem_of_getElem? (i := 684) (by decide +kernel)) rfl
set_option maxRecDepth 100000 in
theorem q_685 : (.methodLink RX6 61 yX6_throwsOldest) ∈ GW := gw_t (List.mem_of_getElem? (i := 685) (by decide +kernel)) rfl
set_option maxRecDepth 100000 in
theorem q_687 : (.instanceMethod yX6_throwsOldest) ∈ GW := gw_t (List.mem_of_getElem? (i := 687) (by decide +kernel)) rfl
set_option maxRecDepth 100000 in
theorem q_688 : (.code yX6_throwsOldest cX6_throwsOldest 3 none) ∈ GW := gw_t (List.mem_of_getElem? (i := 688) (by decide +kernel)) rfl
set_option maxRecDepth 100000 in
theorem q_689 : (.methodLink RX6 82 yX6_lays) ∈ GW := gw_t (List.mem_of_getElem? (i := 689) (by decide +kernel)) rfl
set_option maxRecDepth 100000 in
theorem q_691 : (.instanceMethod yX6_lays) ∈ GW := gw_t (List.mem_of_getElem? (i := 691) (by decide +kernel)) rfl
set_option maxRecDepth 100000 in
theorem q_692 : (.code yX6_lays cX6_lays 8 none) ∈ GW := gw_t (List.mem_of_getElem? (i := 692) (by decide +kernel)) rfl
set_option maxRecDepth 100000 in
theorem q_693 : (.methodLink RL 27 yX6_askAll) ∈ GW := gw_t (List.mem_of_getElem? (i := 693) (by decide +kernel)) rfl
set_option maxRecDepth 100000 in
theorem q_694 : (.instanceMethod yX6_askAll) ∈ GW := gw_t (List.mem_of_getElem? (i := 694) (by decide +kernel)) rfl
set_option maxRecDepth 100000 in
theorem q_695 : (.selects RX6 yX6_askAll yX6_askAll) ∈ GW := gw_t (List.mem_of_getElem? (i := 695) (by decide +kernel)) rfl
set_option maxRecDepth 100000 in
theorem q_696 : (.code yX6_askAll cX6_askAll 2 (some .int)) ∈ GW := gw_t (List.mem_of_getElem? (i := 696) (by decide +kernel)) rfl
set_option maxRecDepth 100000 in
theorem q_697 : (.methodLink RX6 136 yX6_goes) ∈ GW := gw_t (List.mem_of_getElem? (i := 697) (by decide +kernel)) rfl
set_option maxRecDepth 100000 in
theorem q_699 : (.instanceMethod yX6_goes) ∈ GW := gw_t (List.mem_of_getElem? (i := 699) (by decide +kernel)) rfl
set_option maxRecDepth 100000 in
theorem q_700 : (.code yX6_goes cX6_goes 3 (some .int)) ∈ GW := gw_t (List.mem_of_getElem? (i := 700) (by decide +kernel)) rfl
set_option maxRecDepth 100000 in
theorem q_701 : (.methodLink RX6 129 yX6_reads) ∈ GW := gw_t (List.mem_of_getElem? (i := 701) (by decide +kernel)) rfl
set_option maxRecDepth 100000 in
theorem q_703 : (.instanceMethod yX6_reads) ∈ GW := gw_t (List.mem_of_getElem? (i := 703) (by decide +kernel)) rfl
set_option maxRecDepth 100000 in
theorem q_704 : (.code yX6_reads cX6_reads 1 (some .boolean)) ∈ GW := gw_t (List.mem_of_getElem? (i := 704) (by decide +kernel)) rfl
set_option maxRecDepth 100000 in
theorem q_705 : (.methodLink RX6 115 yX6_word) ∈ GW := gw_t (List.mem_of_getElem? (i := 705) (by decide +kernel)) rfl
set_option maxRecDepth 100000 in
theorem q_707 : (.instanceMethod yX6_word) ∈ GW := gw_t (List.mem_of_getElem? (i := 707) (by decide +kernel)) rfl
set_option maxRecDepth 100000 in
theorem q_708 : (.code yX6_word cX6_word 2 (some .boolean)) ∈ GW := gw_t (List.mem_of_getElem? (i := 708) (by decide +kernel)) rfl
set_option maxRecDepth 100000 in
theorem q_709 : (.methodLink RX6 109 yX6_takes) ∈ GW := gw_t (List.mem_of_getElem? (i := 709) (by decide +kernel)) rfl
set_option maxRecDepth 100000 in
theorem q_711 : (.instanceMethod yX6_takes) ∈ GW := gw_t (List.mem_of_getElem? (i := 711) (by decide +kernel)) rfl
set_option maxRecDepth 100000 in
theorem q_712 : (.code yX6_takes cX6_takes 3 (some .boolean)) ∈ GW := gw_t (List.mem_of_getElem? (i := 712) (by decide +kernel)) rfl
set_option maxRecDepth 100000 in
theorem q_713 : (.methodLink RX6 105 yX6_isAt) ∈ GW := gw_t (List.mem_of_getElem? (i := 713) (by decide +kernel)) rfl
set_option maxRecDepth 100000 in
theorem q_715 : (.instanceMethod yX6_isAt) ∈ GW := gw_t (List.mem_of_getElem? (i := 715) (by decide +kernel)) rfl
set_option maxRecDepth 100000 in
theorem q_716 : (.code yX6_isAt cX6_isAt 2 (some .boolean)) ∈ GW := gw_t (List.mem_of_getElem? (i := 716) (by decide +kernel)) rfl
set_option maxRecDepth 100000 in
theorem q_717 : (.methodLink RX6 119 yX6_isDigit) ∈ GW := gw_t (List.mem_of_getElem? (i := 717) (by decide +kernel)) rfl
set_option maxRecDepth 100000 in
theorem q_719 : (.instanceMethod yX6_isDigit) ∈ GW := gw_t (List.mem_of_getElem? (i := 719) (by decide +kernel)) rfl
set_option maxRecDepth 100000 in
theorem q_720 : (.code yX6_isDigit cX6_isDigit 3 (some .boolean)) ∈ GW := gw_t (List.mem_of_getElem? (i := 720) (by decide +kernel)) rfl
set_option maxRecDepth 100000 in
theorem q_721 : (.methodLink RX6 132 yX6_does) ∈ GW := gw_t (List.mem_of_getElem? (i := 721) (by decide +kernel)) rfl
set_option maxRecDepth 100000 in
theorem q_723 : (.instanceMethod yX6_does) ∈ GW := gw_t (List.mem_of_getElem? (i := 723) (by decide +kernel)) rfl
set_option maxRecDepth 100000 in
theorem q_724 : (.code yX6_does cX6_does 1 (some .int)) ∈ GW := gw_t (List.mem_of_getElem? (i := 724) (by decide +kernel)) rfl
set_option maxRecDepth 100000 in
theorem q_725 : (.methodLink RL 32 yX6_pin) ∈ GW := gw_t (List.mem_of_getElem? (i := 725) (by decide +kernel)) rfl
set_option maxRecDepth 100000 in
theorem q_726 : (.instanceMethod yX6_pin) ∈ GW := gw_t (List.mem_of_getElem? (i := 726) (by decide +kernel)) rfl
set_option maxRecDepth 100000 in
theorem q_727 : (.selects RX6 yX6_pin yX6_pin) ∈ GW := gw_t (List.mem_of_getElem? (i := 727) (by decide +kernel)) rfl
set_option maxRecDepth 100000 in
theorem q_728 : (.code yX6_pin cX6_pin 4 (some .int)) ∈ GW := gw_t (List.mem_of_getElem? (i := 728) (by decide +kernel)) rfl
set_option maxRecDepth 100000 in
theorem q_729 : (.methodLink RX6 140 yX6_hasPlan) ∈ GW := gw_t (List.mem_of_getElem? (i := 729) (by decide +kernel)) rfl
set_option maxRecDepth 100000 in
theorem q_731 : (.instanceMethod yX6_hasPlan) ∈ GW := gw_t (List.mem_of_getElem? (i := 731) (by decide +kernel)) rfl
set_option maxRecDepth 100000 in
theorem q_732 : (.code yX6_hasPlan cX6_hasPlan 2 (some .boolean)) ∈ GW := gw_t (List.mem_of_getElem? (i := 732) (by decide +kernel)) rfl
set_option maxRecDepth 100000 in
theorem q_733 : (.methodLink RX6 143 yX6_pinned) ∈ GW := gw_t (List.mem_of_getElem? (i := 733) (by decide +kernel)) rfl
set_option maxRecDepth 100000 in
theorem q_735 : (.instanceMethod yX6_pinned) ∈ GW := gw_t (List.mem_of_getElem? (i := 735) (by decide +kernel)) rfl
set_option maxRecDepth 100000 in
theorem q_736 : (.code yX6_pinned cX6_pinned 3 (some .int)) ∈ GW := gw_t (List.mem_of_getElem? (i := 736) (by decide +kernel)) rfl
set_option maxRecDepth 100000 in
theorem q_737 : (.methodLink RL 37 yX6_throwOut) ∈ GW := gw_t (List.mem_of_getElem? (i := 737) (by decide +kernel)) rfl
set_option maxRecDepth 100000 in
theorem q_738 : (.instanceMethod yX6_throwOut) ∈ GW := gw_t (List.mem_of_getElem? (i := 738) (by decide +kernel)) rfl
set_option maxRecDepth 100000 in
theorem q_739 : (.selects RX6 yX6_throwOut yX6_throwOut) ∈ GW := gw_t (List.mem_of_getElem? (i := 739) (by decide +kernel)) rfl
set_option maxRecDepth 100000 in
theorem q_740 : (.code yX6_throwOut cX6_throwOut 2 (some .int)) ∈ GW := gw_t (List.mem_of_getElem? (i := 740) (by decide +kernel)) rfl
set_option maxRecDepth 100000 in
theorem q_741 : (.methodLink RL 42 yX6_make) ∈ GW := gw_t (List.mem_of_getElem? (i := 741) (by decide +kernel)) rfl
set_option maxRecDepth 100000 in
theorem q_742 : (.instanceMethod yX6_make) ∈ GW := gw_t (List.mem_of_getElem? (i := 742) (by decide +kernel)) rfl
set_option maxRecDepth 100000 in
theorem q_743 : (.selects RX6 yX6_make yX6_make) ∈ GW := gw_t (List.mem_of_getElem? (i := 743) (by decide +kernel)) rfl
set_option maxRecDepth 100000 in
theorem q_744 : (.code yX6_make cX6_make 7 (some .int)) ∈ GW := gw_t (List.mem_of_getElem? (i := 744) (by decide +kernel)) rfl
set_option maxRecDepth 100000 in
theorem q_745 : (.constant RX6 146 (99999 : Int32)) ∈ GW := gw_t (List.mem_of_getElem? (i := 745) (by decide +kernel)) rfl
set_option maxRecDepth 100000 in
theorem q_746 : (.methodLink RL 46 yX6_set) ∈ GW := gw_t (List.mem_of_getElem? (i := 746) (by decide +kernel)) rfl
set_option maxRecDepth 100000 in
theorem q_747 : (.instanceMethod yX6_set) ∈ GW := gw_t (List.mem_of_getElem? (i := 747) (by decide +kernel)) rfl
set_option maxRecDepth 100000 in
theorem q_748 : (.selects RX6 yX6_set yX6_set) ∈ GW := gw_t (List.mem_of_getElem? (i := 748) (by decide +kernel)) rfl
set_option maxRecDepth 100000 in
theorem q_749 : (.code yX6_set cX6_set 4 (some .int)) ∈ GW := gw_t (List.mem_of_getElem? (i := 749) (by decide +kernel)) rfl
set_option maxRecDepth 100000 in
theorem q_750 : (.methodLink RX6 147 yX6_lowest) ∈ GW := gw_t (List.mem_of_getElem? (i := 750) (by decide +kernel)) rfl
set_option maxRecDepth 100000 in
theorem q_751 : (.static yX6_lowest) ∈ GW := gw_t (List.mem_of_getElem? (i := 751) (by decide +kernel)) rfl
set_option maxRecDepth 100000 in
theorem q_752 : (.code yX6_lowest cX6_lowest 1 (some .int)) ∈ GW := gw_t (List.mem_of_getElem? (i := 752) (by decide +kernel)) rfl
set_option maxRecDepth 100000 in
theorem q_753 : (.methodLink RX6 150 yX6_highest) ∈ GW := gw_t (List.mem_of_getElem? (i := 753) (by decide +kernel)) rfl
set_option maxRecDepth 100000 in
theorem q_754 : (.static yX6_highest) ∈ GW := gw_t (List.mem_of_getElem? (i := 754) (by decide +kernel)) rfl
set_option maxRecDepth 100000 in
theorem q_755 : (.code yX6_highest cX6_highest 1 (some .int)) ∈ GW := gw_t (List.mem_of_getElem? (i := 755) (by decide +kernel)) rfl
set_option maxRecDepth 100000 in
theorem q_756 : (.methodLink RL 51 yX6_type) ∈ GW := gw_t (List.mem_of_getElem? (i := 756) (by decide +kernel)) rfl
set_option maxRecDepth 100000 in
theorem q_757 : (.instanceMethod yX6_type) ∈ GW := gw_t (List.mem_of_getElem? (i := 757) (by decide +kernel)) rfl
set_option maxRecDepth 100000 in
theorem q_758 : (.selects RX6 yX6_type yX6_type) ∈ GW := gw_t (List.mem_of_getElem? (i := 758) (by decide +kernel)) rfl
set_option maxRecDepth 100000 in
theorem q_759 : (.code yX6_type cX6_type 2 (some .int)) ∈ GW := gw_t (List.mem_of_getElem? (i := 759) (by decide +kernel)) rfl
set_option maxRecDepth 100000 in
theorem q_760 : (.methodLink RL 55 yX6_clearText) ∈ GW := gw_t (List.mem_of_getElem? (i := 760) (by decide +kernel)) rfl
set_option maxRecDepth 100000 in
theorem q_761 : (.instanceMethod yX6_clearText) ∈ GW := gw_t (List.mem_of_getElem? (i := 761) (by decide +kernel)) rfl
set_option maxRecDepth 100000 in
theorem q_762 : (.selects RX6 yX6_clearText yX6_clearText) ∈ GW := gw_t (List.mem_of_getElem? (i := 762) (by decide +kernel)) rfl
set_option maxRecDepth 100000 in
theorem q_763 : (.code yX6_clearText cX6_clearText 2 (some .int)) ∈ GW := gw_t (List.mem_of_getElem? (i := 763) (by decide +kernel)) rfl
set_option maxRecDepth 100000 in
theorem q_764 : (.methodLink RL 59 yX6_undo) ∈ GW := gw_t (List.mem_of_getElem? (i := 764) (by decide +kernel)) rfl
set_option maxRecDepth 100000 in
theorem q_765 : (.instanceMethod yX6_undo) ∈ GW := gw_t (List.mem_of_getElem? (i := 765) (by decide +kernel)) rfl
set_option maxRecDepth 100000 in
theorem q_766 : (.selects RX6 yX6_undo yX6_undo) ∈ GW := gw_t (List.mem_of_getElem? (i := 766) (by decide +kernel)) rfl
set_option maxRecDepth 100000 in
theorem q_767 : (.code yX6_undo cX6_undo 1 (some .int)) ∈ GW := gw_t (List.mem_of_getElem? (i := 767) (by decide +kernel)) rfl
set_option maxRecDepth 100000 in
theorem q_768 : (.methodLink RL 63 yX6_keep) ∈ GW := gw_t (List.mem_of_getElem? (i := 768) (by decide +kernel)) rfl
set_option maxRecDepth 100000 in
theorem q_769 : (.instanceMethod yX6_keep) ∈ GW := gw_t (List.mem_of_getElem? (i := 769) (by decide +kernel)) rfl
set_option maxRecDepth 100000 in
theorem q_770 : (.selects RX6 yX6_keep yX6_keep) ∈ GW := gw_t (List.mem_of_getElem? (i := 770) (by decide +kernel)) rfl
set_option maxRecDepth 100000 in
theorem q_771 : (.code yX6_keep cX6_keep 1 (some .int)) ∈ GW := gw_t (List.mem_of_getElem? (i := 771) (by decide +kernel)) rfl
set_option maxRecDepth 100000 in
theorem q_772 : (.methodLink RL 67 yX6_restore) ∈ GW := gw_t (List.mem_of_getElem? (i := 772) (by decide +kernel)) rfl
set_option maxRecDepth 100000 in
theorem q_773 : (.instanceMethod yX6_restore) ∈ GW := gw_t (List.mem_of_getElem? (i := 773) (by decide +kernel)) rfl
set_option maxRecDepth 100000 in
theorem q_774 : (.selects RX6 yX6_restore yX6_restore) ∈ GW := gw_t (List.mem_of_getElem? (i := 774) (by decide +kernel)) rfl
set_option maxRecDepth 100000 in
theorem q_775 : (.code yX6_restore cX6_restore 1 (some .int)) ∈ GW := gw_t (List.mem_of_getElem? (i := 775) (by decide +kernel)) rfl
set_option maxRecDepth 100000 in
theorem q_776 : (.methodLink RL 72 yX6_cost) ∈ GW := gw_t (List.mem_of_getElem? (i := 776) (by decide +kernel)) rfl
set_option maxRecDepth 100000 in
theorem q_777 : (.instanceMethod yX6_cost) ∈ GW := gw_t (List.mem_of_getElem? (i := 777) (by decide +kernel)) rfl
set_option maxRecDepth 100000 in
theorem q_778 : (.selects RX6 yX6_cost yX6_cost) ∈ GW := gw_t (List.mem_of_getElem? (i := 778) (by decide +kernel)) rfl
set_option maxRecDepth 100000 in
theorem q_779 : (.code yX6_cost cX6_cost 4 (some .int)) ∈ GW := gw_t (List.mem_of_getElem? (i := 779) (by decide +kernel)) rfl
set_option maxRecDepth 100000 in
theorem q_780 : (.methodLink RL 76 yX6_cheapest) ∈ GW := gw_t (List.mem_of_getElem? (i := 780) (by decide +kernel)) rfl
set_option maxRecDepth 100000 in
theorem q_781 : (.instanceMethod yX6_cheapest) ∈ GW := gw_t (List.mem_of_getElem? (i := 781) (by decide +kernel)) rfl
set_option maxRecDepth 100000 in
theorem q_782 : (.selects RX6 yX6_cheapest yX6_cheapest) ∈ GW := gw_t (List.mem_of_getElem? (i := 782) (by decide +kernel)) rfl
set_option maxRecDepth 100000 in
theorem q_783 : (.code yX6_cheapest cX6_cheapest 3 (some .int)) ∈ GW := gw_t (List.mem_of_getElem? (i := 783) (by decide +kernel)) rfl
set_option maxRecDepth 100000 in
theorem q_784 : (.methodLink RL 80 yX6_plan) ∈ GW := gw_t (List.mem_of_getElem? (i := 784) (by decide +kernel)) rfl
set_option maxRecDepth 100000 in
theorem q_785 : (.instanceMethod yX6_plan) ∈ GW := gw_t (List.mem_of_getElem? (i := 785) (by decide +kernel)) rfl
set_option maxRecDepth 100000 in
theorem q_786 : (.selects RX6 yX6_plan yX6_plan) ∈ GW := gw_t (List.mem_of_getElem? (i := 786) (by decide +kernel)) rfl
set_option maxRecDepth 100000 in
theorem q_787 : (.code yX6_plan cX6_plan 4 (some .int)) ∈ GW := gw_t (List.mem_of_getElem? (i := 787) (by decide +kernel)) rfl
set_option maxRecDepth 100000 in
theorem q_788 : (.methodLink RL 84 yX6_reason) ∈ GW := gw_t (List.mem_of_getElem? (i := 788) (by decide +kernel)) rfl
set_option maxRecDepth 100000 in
theorem q_789 : (.instanceMethod yX6_reason) ∈ GW := gw_t (List.mem_of_getElem? (i := 789) (by decide +kernel)) rfl
set_option maxRecDepth 100000 in
theorem q_790 : (.selects RX6 yX6_reason yX6_reason) ∈ GW := gw_t (List.mem_of_getElem? (i := 790) (by decide +kernel)) rfl
set_option maxRecDepth 100000 in
theorem q_791 : (.code yX6_reason cX6_reason 3 (some .int)) ∈ GW := gw_t (List.mem_of_getElem? (i := 791) (by decide +kernel)) rfl
set_option maxRecDepth 100000 in
theorem q_792 : (.methodLink RL 88 yX6_ifAsked) ∈ GW := gw_t (List.mem_of_getElem? (i := 792) (by decide +kernel)) rfl
set_option maxRecDepth 100000 in
theorem q_793 : (.instanceMethod yX6_ifAsked) ∈ GW := gw_t (List.mem_of_getElem? (i := 793) (by decide +kernel)) rfl
set_option maxRecDepth 100000 in
theorem q_794 : (.selects RX6 yX6_ifAsked yX6_ifAsked) ∈ GW := gw_t (List.mem_of_getElem? (i := 794) (by decide +kernel)) rfl
set_option maxRecDepth 100000 in
theorem q_795 : (.code yX6_ifAsked cX6_ifAsked 4 (some .int)) ∈ GW := gw_t (List.mem_of_getElem? (i := 795) (by decide +kernel)) rfl
set_option maxRecDepth 100000 in
theorem q_796 : (.methodLink RX6 156 yX6_wouldAsk) ∈ GW := gw_t (List.mem_of_getElem? (i := 796) (by decide +kernel)) rfl
set_option maxRecDepth 100000 in
theorem q_798 : (.instanceMethod yX6_wouldAsk) ∈ GW := gw_t (List.mem_of_getElem? (i := 798) (by decide +kernel)) rfl
set_option maxRecDepth 100000 in
theorem q_799 : (.code yX6_wouldAsk cX6_wouldAsk 6 (some .int)) ∈ GW := gw_t (List.mem_of_getElem? (i := 799) (by decide +kernel)) rfl
set_option maxRecDepth 100000 in
theorem q_800 : (.methodLink RL 92 yX6_reach) ∈ GW := gw_t (List.mem_of_getElem? (i := 800) (by decide +kernel)) rfl
set_option maxRecDepth 100000 in
theorem q_801 : (.instanceMethod yX6_reach) ∈ GW := gw_t (List.mem_of_getElem? (i := 801) (by decide +kernel)) rfl
set_option maxRecDepth 100000 in
theorem q_802 : (.selects RX6 yX6_reach yX6_reach) ∈ GW := gw_t (List.mem_of_getElem? (i := 802) (by decide +kernel)) rfl
set_option maxRecDepth 100000 in
theorem q_803 : (.code yX6_reach cX6_reach 5 (some .int)) ∈ GW := gw_t (List.mem_of_getElem? (i := 803) (by decide +kernel)) rfl
set_option maxRecDepth 100000 in
theorem q_804 : (.methodLink RL 96 yX6_oldest) ∈ GW := gw_t (List.mem_of_getElem? (i := 804) (by decide +kernel)) rfl
set_option maxRecDepth 100000 in
theorem q_805 : (.instanceMethod yX6_oldest) ∈ GW := gw_t (List.mem_of_getElem? (i := 805) (by decide +kernel)) rfl
set_option maxRecDepth 100000 in
theorem q_806 : (.selects RX6 yX6_oldest yX6_oldest) ∈ GW := gw_t (List.mem_of_getElem? (i := 806) (by decide +kernel)) rfl
set_option maxRecDepth 100000 in
theorem q_807 : (.code yX6_oldest cX6_oldest 1 (some .int)) ∈ GW := gw_t (List.mem_of_getElem? (i := 807) (by decide +kernel)) rfl
set_option maxRecDepth 100000 in
theorem q_808 : (.methodLink RL 100 yX6_tableOf) ∈ GW := gw_t (List.mem_of_getElem? (i := 808) (by decide +kernel)) rfl
set_option maxRecDepth 100000 in
theorem q_809 : (.instanceMethod yX6_tableOf) ∈ GW := gw_t (List.mem_of_getElem? (i := 809) (by decide +kernel)) rfl
set_option maxRecDepth 100000 in
theorem q_810 : (.selects RX6 yX6_tableOf yX6_tableOf) ∈ GW := gw_t (List.mem_of_getElem? (i := 810) (by decide +kernel)) rfl
set_option maxRecDepth 100000 in
theorem q_811 : (.code yX6_tableOf cX6_tableOf 3 (some .int)) ∈ GW := gw_t (List.mem_of_getElem? (i := 811) (by decide +kernel)) rfl
set_option maxRecDepth 100000 in
theorem q_812 : (.methodLink RX6 159 yX6_keptFor) ∈ GW := gw_t (List.mem_of_getElem? (i := 812) (by decide +kernel)) rfl
set_option maxRecDepth 100000 in
theorem q_814 : (.instanceMethod yX6_keptFor) ∈ GW := gw_t (List.mem_of_getElem? (i := 814) (by decide +kernel)) rfl
set_option maxRecDepth 100000 in
theorem q_815 : (.code yX6_keptFor cX6_keptFor 2 (some .int)) ∈ GW := gw_t (List.mem_of_getElem? (i := 815) (by decide +kernel)) rfl
set_option maxRecDepth 100000 in
theorem q_816 : (.methodLink RL 104 yX6_count) ∈ GW := gw_t (List.mem_of_getElem? (i := 816) (by decide +kernel)) rfl
set_option maxRecDepth 100000 in
theorem q_817 : (.instanceMethod yX6_count) ∈ GW := gw_t (List.mem_of_getElem? (i := 817) (by decide +kernel)) rfl
set_option maxRecDepth 100000 in
theorem q_818 : (.selects RX6 yX6_count yX6_count) ∈ GW := gw_t (List.mem_of_getElem? (i := 818) (by decide +kernel)) rfl
set_option maxRecDepth 100000 in
theorem q_819 : (.code yX6_count cX6_count 2 (some .int)) ∈ GW := gw_t (List.mem_of_getElem? (i := 819) (by decide +kernel)) rfl
set_option maxRecDepth 100000 in
theorem q_820 : (.methodLink RX6 162 yX6_stale) ∈ GW := gw_t (List.mem_of_getElem? (i := 820) (by decide +kernel)) rfl
set_option maxRecDepth 100000 in
theorem q_822 : (.instanceMethod yX6_stale) ∈ GW := gw_t (List.mem_of_getElem? (i := 822) (by decide +kernel)) rfl
set_option maxRecDepth 100000 in
theorem q_823 : (.code yX6_stale cX6_stale 3 (some .int)) ∈ GW := gw_t (List.mem_of_getElem? (i := 823) (by decide +kernel)) rfl
set_option maxRecDepth 100000 in
theorem q_824 : (.fieldLink RJ0 9 "java/lang/String" "value" "[B") ∈ GW := gw_t (List.mem_of_getElem? (i := 824) (by decide +kernel)) rfl
set_option maxRecDepth 100000 in
theorem q_825 : (.fieldLink RJ0 15 "java/lang/String" "coder" "B") ∈ GW := gw_t (List.mem_of_getElem? (i := 825) (by decide +kernel)) rfl
set_option maxRecDepth 100000 in
theorem qs_0 : (.selects RX5 yX5_hasPlan yX5_hasPlan) ∈ GW := List.mem_filter.mpr ⟨List.mem_append_left _ (List.mem_of_getElem? (i := 0) (by decide +kernel)), rfl⟩
set_option maxRecDepth 100000 in
theorem qs_1 : (.selects RX6 yX6_records yX6_records) ∈ GW := List.mem_filter.mpr ⟨List.mem_append_left _ (List.mem_of_getElem? (i := 1) (by decide +kernel)), rfl⟩
set_option maxRecDepth 100000 in
theorem qs_2 : (.selects RX6 yX6_copies yX6_copies) ∈ GW := List.mem_filter.mpr ⟨List.mem_append_left _ (List.mem_of_getElem? (i := 2) (by decide +kernel)), rfl⟩
set_option maxRecDepth 100000 in
theorem qs_3 : (.selects RX6 yX6_asks yX6_asks) ∈ GW := List.mem_filter.mpr ⟨List.mem_append_left _ (List.mem_of_getElem? (i := 3) (by decide +kernel)), rfl⟩
set_option maxRecDepth 100000 in
theorem qs_4 : (.selects RX6 yX6_why yX6_why) ∈ GW := List.mem_filter.mpr ⟨List.mem_append_left _ (List.mem_of_getElem? (i := 4) (by decide +kernel)), rfl⟩
set_option maxRecDepth 100000 in
theorem qs_5 : (.selects RX6 yX6_isChanged yX6_isChanged) ∈ GW := List.mem_filter.mpr ⟨List.mem_append_left _ (List.mem_of_getElem? (i := 5) (by decide +kernel)), rfl⟩
set_option maxRecDepth 100000 in
theorem qs_6 : (.selects RX6 yX6_isOld yX6_isOld) ∈ GW := List.mem_filter.mpr ⟨List.mem_append_left _ (List.mem_of_getElem? (i := 6) (by decide +kernel)), rfl⟩
set_option maxRecDepth 100000 in
theorem qs_7 : (.selects RX6 yX6_age yX6_age) ∈ GW := List.mem_filter.mpr ⟨List.mem_append_left _ (List.mem_of_getElem? (i := 7) (by decide +kernel)), rfl⟩
set_option maxRecDepth 100000 in
theorem qs_8 : (.selects RX6 yX6_cheapestOf yX6_cheapestOf) ∈ GW := List.mem_filter.mpr ⟨List.mem_append_left _ (List.mem_of_getElem? (i := 8) (by decide +kernel)), rfl⟩
set_option maxRecDepth 100000 in
theorem qs_9 : (.selects RX6 yX6_costs yX6_costs) ∈ GW := List.mem_filter.mpr ⟨List.mem_append_left _ (List.mem_of_getElem? (i := 9) (by decide +kernel)), rfl⟩
set_option maxRecDepth 100000 in
theorem qs_10 : (.selects RX6 yX6_hasRoom yX6_hasRoom) ∈ GW := List.mem_filter.mpr ⟨List.mem_append_left _ (List.mem_of_getElem? (i := 10) (by decide +kernel)), rfl⟩
set_option maxRecDepth 100000 in
theorem qs_11 : (.selects RX6 yX6_kept yX6_kept) ∈ GW := List.mem_filter.mpr ⟨List.mem_append_left _ (List.mem_of_getElem? (i := 11) (by decide +kernel)), rfl⟩
set_option maxRecDepth 100000 in
theorem qs_12 : (.selects RX6 yX6_oldestOf yX6_oldestOf) ∈ GW := List.mem_filter.mpr ⟨List.mem_append_left _ (List.mem_of_getElem? (i := 12) (by decide +kernel)), rfl⟩
set_option maxRecDepth 100000 in
theorem qs_13 : (.selects RX6 yX6_throwsOldest yX6_throwsOldest) ∈ GW := List.mem_filter.mpr ⟨List.mem_append_left _ (List.mem_of_getElem? (i := 13) (by decide +kernel)), rfl⟩
set_option maxRecDepth 100000 in
theorem qs_14 : (.selects RX6 yX6_lays yX6_lays) ∈ GW := List.mem_filter.mpr ⟨List.mem_append_left _ (List.mem_of_getElem? (i := 14) (by decide +kernel)), rfl⟩
set_option maxRecDepth 100000 in
theorem qs_15 : (.selects RX6 yX6_goes yX6_goes) ∈ GW := List.mem_filter.mpr ⟨List.mem_append_left _ (List.mem_of_getElem? (i := 15) (by decide +kernel)), rfl⟩
set_option maxRecDepth 100000 in
theorem qs_16 : (.selects RX6 yX6_reads yX6_reads) ∈ GW := List.mem_filter.mpr ⟨List.mem_append_left _ (List.mem_of_getElem? (i := 16) (by decide +kernel)), rfl⟩
set_option maxRecDepth 100000 in
theorem qs_17 : (.selects RX6 yX6_word yX6_word) ∈ GW := List.mem_filter.mpr ⟨List.mem_append_left _ (List.mem_of_getElem? (i := 17) (by decide +kernel)), rfl⟩
set_option maxRecDepth 100000 in
theorem qs_18 : (.selects RX6 yX6_takes yX6_takes) ∈ GW := List.mem_filter.mpr ⟨List.mem_append_left _ (List.mem_of_getElem? (i := 18) (by decide +kernel)), rfl⟩
set_option maxRecDepth 100000 in
theorem qs_19 : (.selects RX6 yX6_isAt yX6_isAt) ∈ GW := List.mem_filter.mpr ⟨List.mem_append_left _ (List.mem_of_getElem? (i := 19) (by decide +kernel)), rfl⟩
set_option maxRecDepth 100000 in
theorem qs_20 : (.selects RX6 yX6_isDigit yX6_isDigit) ∈ GW := List.mem_filter.mpr ⟨List.mem_append_left _ (List.mem_of_getElem? (i := 20) (by decide +kernel)), rfl⟩
set_option maxRecDepth 100000 in
theorem qs_21 : (.selects RX6 yX6_does yX6_does) ∈ GW := List.mem_filter.mpr ⟨List.mem_append_left _ (List.mem_of_getElem? (i := 21) (by decide +kernel)), rfl⟩
set_option maxRecDepth 100000 in
theorem qs_22 : (.selects RX6 yX6_hasPlan yX6_hasPlan) ∈ GW := List.mem_filter.mpr ⟨List.mem_append_left _ (List.mem_of_getElem? (i := 22) (by decide +kernel)), rfl⟩
set_option maxRecDepth 100000 in
theorem qs_23 : (.selects RX6 yX6_pinned yX6_pinned) ∈ GW := List.mem_filter.mpr ⟨List.mem_append_left _ (List.mem_of_getElem? (i := 23) (by decide +kernel)), rfl⟩
set_option maxRecDepth 100000 in
theorem qs_24 : (.selects RX6 yX6_wouldAsk yX6_wouldAsk) ∈ GW := List.mem_filter.mpr ⟨List.mem_append_left _ (List.mem_of_getElem? (i := 24) (by decide +kernel)), rfl⟩
set_option maxRecDepth 100000 in
theorem qs_25 : (.selects RX6 yX6_keptFor yX6_keptFor) ∈ GW := List.mem_filter.mpr ⟨List.mem_append_left _ (List.mem_of_getElem? (i := 25) (by decide +kernel)), rfl⟩
set_option maxRecDepth 100000 in
theorem qs_26 : (.selects RX6 yX6_stale yX6_stale) ∈ GW := List.mem_filter.mpr ⟨List.mem_append_left _ (List.mem_of_getElem? (i := 26) (by decide +kernel)), rfl⟩
set_option maxRecDepth 100000 in
theorem inX0 : ∀ w ∈ wsX00, w ∈ GW := by decide +kernel
set_option maxRecDepth 100000 in
theorem inX1 : ∀ w ∈ wsX10, w ∈ GW := by decide +kernel
set_option maxRecDepth 100000 in
theorem inX2 : ∀ w ∈ wsX20, w ∈ GW := by decide +kernel
set_option maxRecDepth 100000 in
theorem inX3 : ∀ w ∈ wsX30, w ∈ GW := by decide +kernel
set_option maxRecDepth 100000 in
theorem inX4 : ∀ w ∈ wsX40, w ∈ GW := by decide +kernel
set_option maxRecDepth 100000 in
theorem inX5 : ∀ w ∈ wsX50, w ∈ GW := by decide +kernel
set_option maxRecDepth 100000 in
theorem inX6 : ∀ w ∈ wsX60, w ∈ GW := by decide +kernel
end
section
theorem dX0_init_0 : decode cX0_init 0 = .ok (.aload_n 0, 1) := by decide +kernel
theorem dX0_init_1 : decode cX0_init 1 = .ok (.invokespecial 3, 3) := by decide +kernel
theorem dX0_init_4 : decode cX0_init 4 = .ok (.aload_n 0, 1) := by decide +kernel
theorem dX0_init_5 : decode cX0_init 5 = .ok (.iconst 4, 1) := by decide +kernel
theorem dX0_init_6 : decode cX0_init 6 = .ok (.anewarray 9, 3) := by decide +kernel
theorem dX0_init_9 : decode cX0_init 9 = .ok (.putfield 11, 3) := by decide +kernel
theorem dX0_init_12 : decode cX0_init 12 = .ok (.iconst 0, 1) := by decide +kernel
theorem dX0_init_13 : decode cX0_init 13 = .ok (.istore_n 1, 1) := by decide +kernel
theorem dX0_init_14 : decode cX0_init 14 = .ok (.iload_n 1, 1) := by decide +kernel
theorem dX0_init_15 : decode cX0_init 15 = .ok (.iconst 4, 1) := by decide +kernel
theorem dX0_init_16 : decode cX0_init 16 = .ok (.if_icmp .ge 22, 3) := by decide +kernel
theorem dX0_init_19 : decode cX0_init 19 = .ok (.aload_n 0, 1) := by decide +kernel
theorem dX0_init_20 : decode cX0_init 20 = .ok (.getfield 11, 3) := by decide +kernel
theorem dX0_init_23 : decode cX0_init 23 = .ok (.iload_n 1, 1) := by decide +kernel
theorem dX0_init_24 : decode cX0_init 24 = .ok (.new 9, 3) := by decide +kernel
theorem dX0_init_27 : decode cX0_init 27 = .ok (.dup, 1) := by decide +kernel
theorem dX0_init_28 : decode cX0_init 28 = .ok (.invokespecial 17, 3) := by decide +kernel
theorem dX0_init_31 : decode cX0_init 31 = .ok (.aastore, 1) := by decide +kernel
theorem dX0_init_32 : decode cX0_init 32 = .ok (.iinc 1 1, 3) := by decide +kernel
theorem dX0_init_35 : decode cX0_init 35 = .ok (.goto (-21), 3) := by decide +kernel
theorem dX0_init_38 : decode cX0_init 38 = .ok (.return_, 1) := by decide +kernel
theorem dX0_record_0 : decode cX0_record 0 = .ok (.aload_n 0, 1) := by decide +kernel
theorem dX0_record_1 : decode cX0_record 1 = .ok (.getfield 11, 3) := by decide +kernel
theorem dX0_record_4 : decode cX0_record 4 = .ok (.aload_n 0, 1) := by decide +kernel
theorem dX0_record_5 : decode cX0_record 5 = .ok (.getfield 18, 3) := by decide +kernel
theorem dX0_record_8 : decode cX0_record 8 = .ok (.aaload, 1) := by decide +kernel
theorem dX0_record_9 : decode cX0_record 9 = .ok (.aload_n 1, 1) := by decide +kernel
theorem dX0_record_10 : decode cX0_record 10 = .ok (.invokevirtual 22, 3) := by decide +kernel
theorem dX0_record_13 : decode cX0_record 13 = .ok (.aload_n 0, 1) := by decide +kernel
theorem dX0_record_14 : decode cX0_record 14 = .ok (.aload_n 0, 1) := by decide +kernel
theorem dX0_record_15 : decode cX0_record 15 = .ok (.getfield 18, 3) := by decide +kernel
theorem dX0_record_18 : decode cX0_record 18 = .ok (.iconst 1, 1) := by decide +kernel
theorem dX0_record_19 : decode cX0_record 19 = .ok (.iadd, 1) := by decide +kernel
theorem dX0_record_20 : decode cX0_record 20 = .ok (.iconst 4, 1) := by decide +kernel
theorem dX0_record_21 : decode cX0_record 21 = .ok (.irem, 1) := by decide +kernel
theorem dX0_record_22 : decode cX0_record 22 = .ok (.putfield 18, 3) := by decide +kernel
theorem dX0_record_25 : decode cX0_record 25 = .ok (.aload_n 0, 1) := by decide +kernel
theorem dX0_record_26 : decode cX0_record 26 = .ok (.aload_n 0, 1) := by decide +kernel
theorem dX0_record_27 : decode cX0_record 27 = .ok (.getfield 26, 3) := by decide +kernel
theorem dX0_record_30 : decode cX0_record 30 = .ok (.iconst 1, 1) := by decide +kernel
theorem dX0_record_31 : decode cX0_record 31 = .ok (.iadd, 1) := by decide +kernel
theorem dX0_record_32 : decode cX0_record 32 = .ok (.iconst 4, 1) := by decide +kernel
theorem dX0_record_33 : decode cX0_record 33 = .ok (.invokestatic 29, 3) := by decide +kernel
theorem dX0_record_36 : decode cX0_record 36 = .ok (.putfield 26, 3) := by decide +kernel
theorem dX0_record_39 : decode cX0_record 39 = .ok (.return_, 1) := by decide +kernel
theorem dX0_takeBack_0 : decode cX0_takeBack 0 = .ok (.aload_n 0, 1) := by decide +kernel
theorem dX0_takeBack_1 : decode cX0_takeBack 1 = .ok (.aload_n 0, 1) := by decide +kernel
theorem dX0_takeBack_2 : decode cX0_takeBack 2 = .ok (.getfield 18, 3) := by decide +kernel
theorem dX0_takeBack_5 : decode cX0_takeBack 5 = .ok (.iconst 4, 1) := by decide +kernel
theorem dX0_takeBack_6 : decode cX0_takeBack 6 = .ok (.iadd, 1) := by decide +kernel
theorem dX0_takeBack_7 : decode cX0_takeBack 7 = .ok (.iconst 1, 1) := by decide +kernel
theorem dX0_takeBack_8 : decode cX0_takeBack 8 = .ok (.isub, 1) := by decide +kernel
theorem dX0_takeBack_9 : decode cX0_takeBack 9 = .ok (.iconst 4, 1) := by decide +kernel
theorem dX0_takeBack_10 : decode cX0_takeBack 10 = .ok (.irem, 1) := by decide +kernel
theorem dX0_takeBack_11 : decode cX0_takeBack 11 = .ok (.putfield 18, 3) := by decide +kernel
theorem dX0_takeBack_14 : decode cX0_takeBack 14 = .ok (.aload_n 0, 1) := by decide +kernel
theorem dX0_takeBack_15 : decode cX0_takeBack 15 = .ok (.dup, 1) := by decide +kernel
theorem dX0_takeBack_16 : decode cX0_takeBack 16 = .ok (.getfield 26, 3) := by decide +kernel
theorem dX0_takeBack_19 : decode cX0_takeBack 19 = .ok (.iconst 1, 1) := by decide +kernel
theorem dX0_takeBack_20 : decode cX0_takeBack 20 = .ok (.isub, 1) := by decide +kernel
theorem dX0_takeBack_21 : decode cX0_takeBack 21 = .ok (.putfield 26, 3) := by decide +kernel
theorem dX0_takeBack_24 : decode cX0_takeBack 24 = .ok (.aload_n 1, 1) := by decide +kernel
theorem dX0_takeBack_25 : decode cX0_takeBack 25 = .ok (.aload_n 0, 1) := by decide +kernel
theorem dX0_takeBack_26 : decode cX0_takeBack 26 = .ok (.getfield 11, 3) := by decide +kernel
theorem dX0_takeBack_29 : decode cX0_takeBack 29 = .ok (.aload_n 0, 1) := by decide +kernel
theorem dX0_takeBack_30 : decode cX0_takeBack 30 = .ok (.getfield 18, 3) := by decide +kernel
theorem dX0_takeBack_33 : decode cX0_takeBack 33 = .ok (.aaload, 1) := by decide +kernel
theorem dX0_takeBack_34 : decode cX0_takeBack 34 = .ok (.invokevirtual 22, 3) := by decide +kernel
theorem dX0_takeBack_37 : decode cX0_takeBack 37 = .ok (.return_, 1) := by decide +kernel
theorem dX1_init_0 : decode cX1_init 0 = .ok (.aload_n 0, 1) := by decide +kernel
theorem dX1_init_1 : decode cX1_init 1 = .ok (.invokespecial 1, 3) := by decide +kernel
theorem dX1_init_4 : decode cX1_init 4 = .ok (.return_, 1) := by decide +kernel
theorem dX1_copyFrom_0 : decode cX1_copyFrom 0 = .ok (.aload_n 0, 1) := by decide +kernel
theorem dX1_copyFrom_1 : decode cX1_copyFrom 1 = .ok (.aload_n 1, 1) := by decide +kernel
theorem dX1_copyFrom_2 : decode cX1_copyFrom 2 = .ok (.getfield 7, 3) := by decide +kernel
theorem dX1_copyFrom_5 : decode cX1_copyFrom 5 = .ok (.putfield 7, 3) := by decide +kernel
theorem dX1_copyFrom_8 : decode cX1_copyFrom 8 = .ok (.aload_n 0, 1) := by decide +kernel
theorem dX1_copyFrom_9 : decode cX1_copyFrom 9 = .ok (.aload_n 1, 1) := by decide +kernel
theorem dX1_copyFrom_10 : decode cX1_copyFrom 10 = .ok (.getfield 13, 3) := by decide +kernel
theorem dX1_copyFrom_13 : decode cX1_copyFrom 13 = .ok (.putfield 13, 3) := by decide +kernel
theorem dX1_copyFrom_16 : decode cX1_copyFrom 16 = .ok (.aload_n 0, 1) := by decide +kernel
theorem dX1_copyFrom_17 : decode cX1_copyFrom 17 = .ok (.aload_n 1, 1) := by decide +kernel
theorem dX1_copyFrom_18 : decode cX1_copyFrom 18 = .ok (.getfield 16, 3) := by decide +kernel
theorem dX1_copyFrom_21 : decode cX1_copyFrom 21 = .ok (.putfield 16, 3) := by decide +kernel
theorem dX1_copyFrom_24 : decode cX1_copyFrom 24 = .ok (.aload_n 0, 1) := by decide +kernel
theorem dX1_copyFrom_25 : decode cX1_copyFrom 25 = .ok (.aload_n 1, 1) := by decide +kernel
theorem dX1_copyFrom_26 : decode cX1_copyFrom 26 = .ok (.getfield 20, 3) := by decide +kernel
theorem dX1_copyFrom_29 : decode cX1_copyFrom 29 = .ok (.putfield 20, 3) := by decide +kernel
theorem dX1_copyFrom_32 : decode cX1_copyFrom 32 = .ok (.aload_n 0, 1) := by decide +kernel
theorem dX1_copyFrom_33 : decode cX1_copyFrom 33 = .ok (.aload_n 1, 1) := by decide +kernel
theorem dX1_copyFrom_34 : decode cX1_copyFrom 34 = .ok (.getfield 23, 3) := by decide +kernel
theorem dX1_copyFrom_37 : decode cX1_copyFrom 37 = .ok (.putfield 23, 3) := by decide +kernel
theorem dX1_copyFrom_40 : decode cX1_copyFrom 40 = .ok (.aload_n 0, 1) := by decide +kernel
theorem dX1_copyFrom_41 : decode cX1_copyFrom 41 = .ok (.aload_n 1, 1) := by decide +kernel
theorem dX1_copyFrom_42 : decode cX1_copyFrom 42 = .ok (.getfield 26, 3) := by decide +kernel
theorem dX1_copyFrom_45 : decode cX1_copyFrom 45 = .ok (.putfield 26, 3) := by decide +kernel
theorem dX1_copyFrom_48 : decode cX1_copyFrom 48 = .ok (.aload_n 0, 1) := by decide +kernel
theorem dX1_copyFrom_49 : decode cX1_copyFrom 49 = .ok (.aload_n 1, 1) := by decide +kernel
theorem dX1_copyFrom_50 : decode cX1_copyFrom 50 = .ok (.getfield 29, 3) := by decide +kernel
theorem dX1_copyFrom_53 : decode cX1_copyFrom 53 = .ok (.putfield 29, 3) := by decide +kernel
theorem dX1_copyFrom_56 : decode cX1_copyFrom 56 = .ok (.aload_n 0, 1) := by decide +kernel
theorem dX1_copyFrom_57 : decode cX1_copyFrom 57 = .ok (.aload_n 1, 1) := by decide +kernel
theorem dX1_copyFrom_58 : decode cX1_copyFrom 58 = .ok (.getfield 32, 3) := by decide +kernel
theorem dX1_copyFrom_61 : decode cX1_copyFrom 61 = .ok (.putfield 32, 3) := by decide +kernel
theorem dX1_copyFrom_64 : decode cX1_copyFrom 64 = .ok (.aload_n 0, 1) := by decide +kernel
theorem dX1_copyFrom_65 : decode cX1_copyFrom 65 = .ok (.aload_n 1, 1) := by decide +kernel
theorem dX1_copyFrom_66 : decode cX1_copyFrom 66 = .ok (.getfield 35, 3) := by decide +kernel
theorem dX1_copyFrom_69 : decode cX1_copyFrom 69 = .ok (.putfield 35, 3) := by decide +kernel
theorem dX1_copyFrom_72 : decode cX1_copyFrom 72 = .ok (.aload_n 0, 1) := by decide +kernel
theorem dX1_copyFrom_73 : decode cX1_copyFrom 73 = .ok (.aload_n 1, 1) := by decide +kernel
theorem dX1_copyFrom_74 : decode cX1_copyFrom 74 = .ok (.getfield 38, 3) := by decide +kernel
theorem dX1_copyFrom_77 : decode cX1_copyFrom 77 = .ok (.putfield 38, 3) := by decide +kernel
theorem dX1_copyFrom_80 : decode cX1_copyFrom 80 = .ok (.aload_n 0, 1) := by decide +kernel
theorem dX1_copyFrom_81 : decode cX1_copyFrom 81 = .ok (.aload_n 1, 1) := by decide +kernel
theorem dX1_copyFrom_82 : decode cX1_copyFrom 82 = .ok (.getfield 41, 3) := by decide +kernel
theorem dX1_copyFrom_85 : decode cX1_copyFrom 85 = .ok (.putfield 41, 3) := by decide +kernel
theorem dX1_copyFrom_88 : decode cX1_copyFrom 88 = .ok (.return_, 1) := by decide +kernel
theorem dX2_init_0 : decode cX2_init 0 = .ok (.aload_n 0, 1) := by decide +kernel
theorem dX2_init_1 : decode cX2_init 1 = .ok (.invokespecial 3, 3) := by decide +kernel
theorem dX2_init_4 : decode cX2_init 4 = .ok (.aload_n 0, 1) := by decide +kernel
theorem dX2_init_5 : decode cX2_init 5 = .ok (.bipush 80, 2) := by decide +kernel
theorem dX2_init_7 : decode cX2_init 7 = .ok (.newarray .char, 2) := by decide +kernel
theorem dX2_init_9 : decode cX2_init 9 = .ok (.putfield 9, 3) := by decide +kernel
theorem dX2_init_12 : decode cX2_init 12 = .ok (.aload_n 0, 1) := by decide +kernel
theorem dX2_init_13 : decode cX2_init 13 = .ok (.bipush 11, 2) := by decide +kernel
theorem dX2_init_15 : decode cX2_init 15 = .ok (.newarray .int, 2) := by decide +kernel
theorem dX2_init_17 : decode cX2_init 17 = .ok (.putfield 15, 3) := by decide +kernel
theorem dX2_init_20 : decode cX2_init 20 = .ok (.aload_n 0, 1) := by decide +kernel
theorem dX2_init_21 : decode cX2_init 21 = .ok (.bipush 11, 2) := by decide +kernel
theorem dX2_init_23 : decode cX2_init 23 = .ok (.newarray .int, 2) := by decide +kernel
theorem dX2_init_25 : decode cX2_init 25 = .ok (.putfield 19, 3) := by decide +kernel
theorem dX2_init_28 : decode cX2_init 28 = .ok (.aload_n 0, 1) := by decide +kernel
theorem dX2_init_29 : decode cX2_init 29 = .ok (.bipush 11, 2) := by decide +kernel
theorem dX2_init_31 : decode cX2_init 31 = .ok (.newarray .int, 2) := by decide +kernel
theorem dX2_init_33 : decode cX2_init 33 = .ok (.putfield 22, 3) := by decide +kernel
theorem dX2_init_36 : decode cX2_init 36 = .ok (.return_, 1) := by decide +kernel
theorem dX2_read_0 : decode cX2_read 0 = .ok (.aload_n 0, 1) := by decide +kernel
theorem dX2_read_1 : decode cX2_read 1 = .ok (.iconst 0, 1) := by decide +kernel
theorem dX2_read_2 : decode cX2_read 2 = .ok (.putfield 25, 3) := by decide +kernel
theorem dX2_read_5 : decode cX2_read 5 = .ok (.aload_n 0, 1) := by decide +kernel
theorem dX2_read_6 : decode cX2_read 6 = .ok (.iconst 0, 1) := by decide +kernel
theorem dX2_read_7 : decode cX2_read 7 = .ok (.putfield 29, 3) := by decide +kernel
theorem dX2_read_10 : decode cX2_read 10 = .ok (.aload_n 0, 1) := by decide +kernel
theorem dX2_read_11 : decode cX2_read 11 = .ok (.getfield 29, 3) := by decide +kernel
theorem dX2_read_14 : decode cX2_read 14 = .ok (.bipush 11, 2) := by decide +kernel
theorem dX2_read_16 : decode cX2_read 16 = .ok (.if_icmp .ge 57, 3) := by decide +kernel
theorem dX2_read_19 : decode cX2_read 19 = .ok (.aload_n 0, 1) := by decide +kernel
theorem dX2_read_20 : decode cX2_read 20 = .ok (.aload_n 0, 1) := by decide +kernel
theorem dX2_read_21 : decode cX2_read 21 = .ok (.getfield 29, 3) := by decide +kernel
theorem dX2_read_24 : decode cX2_read 24 = .ok (.invokevirtual 32, 3) := by decide +kernel
theorem dX2_read_27 : decode cX2_read 27 = .ok (.ifCond .ne 8, 3) := by decide +kernel
theorem dX2_read_30 : decode cX2_read 30 = .ok (.aload_n 0, 1) := by decide +kernel
theorem dX2_read_31 : decode cX2_read 31 = .ok (.getfield 25, 3) := by decide +kernel
theorem dX2_read_34 : decode cX2_read 34 = .ok (.ireturn, 1) := by decide +kernel
theorem dX2_read_35 : decode cX2_read 35 = .ok (.aload_n 0, 1) := by decide +kernel
theorem dX2_read_36 : decode cX2_read 36 = .ok (.dup, 1) := by decide +kernel
theorem dX2_read_37 : decode cX2_read 37 = .ok (.getfield 29, 3) := by decide +kernel
theorem dX2_read_40 : decode cX2_read 40 = .ok (.iconst 1, 1) := by decide +kernel
theorem dX2_read_41 : decode cX2_read 41 = .ok (.iadd, 1) := by decide +kernel
theorem dX2_read_42 : decode cX2_read 42 = .ok (.putfield 29, 3) := by decide +kernel
theorem dX2_read_45 : decode cX2_read 45 = .ok (.aload_n 0, 1) := by decide +kernel
theorem dX2_read_46 : decode cX2_read 46 = .ok (.getfield 25, 3) := by decide +kernel
theorem dX2_read_49 : decode cX2_read 49 = .ok (.aload_n 0, 1) := by decide +kernel
theorem dX2_read_50 : decode cX2_read 50 = .ok (.getfield 36, 3) := by decide +kernel
theorem dX2_read_53 : decode cX2_read 53 = .ok (.if_icmp .lt 6, 3) := by decide +kernel
theorem dX2_read_56 : decode cX2_read 56 = .ok (.bipush (-4), 2) := by decide +kernel
theorem dX2_read_58 : decode cX2_read 58 = .ok (.ireturn, 1) := by decide +kernel
theorem dX2_read_59 : decode cX2_read 59 = .ok (.aload_n 0, 1) := by decide +kernel
theorem dX2_read_60 : decode cX2_read 60 = .ok (.ldc 39, 2) := by decide +kernel
theorem dX2_read_62 : decode cX2_read 62 = .ok (.invokevirtual 41, 3) := by decide +kernel
theorem dX2_read_65 : decode cX2_read 65 = .ok (.ifCond .ne (-55), 3) := by decide +kernel
theorem dX2_read_68 : decode cX2_read 68 = .ok (.aload_n 0, 1) := by decide +kernel
theorem dX2_read_69 : decode cX2_read 69 = .ok (.getfield 25, 3) := by decide +kernel
theorem dX2_read_72 : decode cX2_read 72 = .ok (.ireturn, 1) := by decide +kernel
theorem dX2_read_73 : decode cX2_read 73 = .ok (.aload_n 0, 1) := by decide +kernel
theorem dX2_read_74 : decode cX2_read 74 = .ok (.getfield 25, 3) := by decide +kernel
theorem dX2_read_77 : decode cX2_read 77 = .ok (.ireturn, 1) := by decide +kernel
theorem dX2_readLine_0 : decode cX2_readLine 0 = .ok (.aload_n 0, 1) := by decide +kernel
theorem dX2_readLine_1 : decode cX2_readLine 1 = .ok (.invokevirtual 45, 3) := by decide +kernel
theorem dX2_readLine_4 : decode cX2_readLine 4 = .ok (.istore_n 2, 1) := by decide +kernel
theorem dX2_readLine_5 : decode cX2_readLine 5 = .ok (.iload_n 2, 1) := by decide +kernel
theorem dX2_readLine_6 : decode cX2_readLine 6 = .ok (.iconst (-1), 1) := by decide +kernel
theorem dX2_readLine_7 : decode cX2_readLine 7 = .ok (.if_icmp .ne 5, 3) := by decide +kernel
theorem dX2_readLine_10 : decode cX2_readLine 10 = .ok (.iconst 0, 1) := by decide +kernel
theorem dX2_readLine_11 : decode cX2_readLine 11 = .ok (.ireturn, 1) := by decide +kernel
theorem dX2_readLine_12 : decode cX2_readLine 12 = .ok (.aload_n 0, 1) := by decide +kernel
theorem dX2_readLine_13 : decode cX2_readLine 13 = .ok (.iconst 0, 1) := by decide +kernel
theorem dX2_readLine_14 : decode cX2_readLine 14 = .ok (.iconst 3, 1) := by decide +kernel
theorem dX2_readLine_15 : decode cX2_readLine 15 = .ok (.invokevirtual 49, 3) := by decide +kernel
theorem dX2_readLine_18 : decode cX2_readLine 18 = .ok (.istore_n 3, 1) := by decide +kernel
theorem dX2_readLine_19 : decode cX2_readLine 19 = .ok (.iload_n 3, 1) := by decide +kernel
theorem dX2_readLine_20 : decode cX2_readLine 20 = .ok (.iconst (-1), 1) := by decide +kernel
theorem dX2_readLine_21 : decode cX2_readLine 21 = .ok (.if_icmp .ne 5, 3) := by decide +kernel
theorem dX2_readLine_24 : decode cX2_readLine 24 = .ok (.iconst 0, 1) := by decide +kernel
theorem dX2_readLine_25 : decode cX2_readLine 25 = .ok (.ireturn, 1) := by decide +kernel
theorem dX2_readLine_26 : decode cX2_readLine 26 = .ok (.aload_n 0, 1) := by decide +kernel
theorem dX2_readLine_27 : decode cX2_readLine 27 = .ok (.iload_n 2, 1) := by decide +kernel
theorem dX2_readLine_28 : decode cX2_readLine 28 = .ok (.ifCond .eq 8, 3) := by decide +kernel
theorem dX2_readLine_31 : decode cX2_readLine 31 = .ok (.iload_n 2, 1) := by decide +kernel
theorem dX2_readLine_32 : decode cX2_readLine 32 = .ok (.iconst 3, 1) := by decide +kernel
theorem dX2_readLine_33 : decode cX2_readLine 33 = .ok (.if_icmp .ne 7, 3) := by decide +kernel
theorem dX2_readLine_36 : decode cX2_readLine 36 = .ok (.iconst 0, 1) := by decide +kernel
theorem dX2_readLine_37 : decode cX2_readLine 37 = .ok (.goto 4, 3) := by decide +kernel
theorem dX2_readLine_40 : decode cX2_readLine 40 = .ok (.iconst 1, 1) := by decide +kernel
theorem dX2_readLine_41 : decode cX2_readLine 41 = .ok (.sipush 9999, 3) := by decide +kernel
theorem dX2_readLine_44 : decode cX2_readLine 44 = .ok (.invokevirtual 49, 3) := by decide +kernel
theorem dX2_readLine_47 : decode cX2_readLine 47 = .ok (.istore 4, 2) := by decide +kernel
theorem dX2_readLine_49 : decode cX2_readLine 49 = .ok (.iload 4, 2) := by decide +kernel
theorem dX2_readLine_51 : decode cX2_readLine 51 = .ok (.iconst (-1), 1) := by decide +kernel
theorem dX2_readLine_52 : decode cX2_readLine 52 = .ok (.if_icmp .ne 5, 3) := by decide +kernel
theorem dX2_readLine_55 : decode cX2_readLine 55 = .ok (.iconst 0, 1) := by decide +kernel
theorem dX2_readLine_56 : decode cX2_readLine 56 = .ok (.ireturn, 1) := by decide +kernel
theorem dX2_readLine_57 : decode cX2_readLine 57 = .ok (.aload_n 0, 1) := by decide +kernel
theorem dX2_readLine_58 : decode cX2_readLine 58 = .ok (.getfield 15, 3) := by decide +kernel
theorem dX2_readLine_61 : decode cX2_readLine 61 = .ok (.iload_n 1, 1) := by decide +kernel
theorem dX2_readLine_62 : decode cX2_readLine 62 = .ok (.iload_n 2, 1) := by decide +kernel
theorem dX2_readLine_63 : decode cX2_readLine 63 = .ok (.iastore, 1) := by decide +kernel
theorem dX2_readLine_64 : decode cX2_readLine 64 = .ok (.aload_n 0, 1) := by decide +kernel
theorem dX2_readLine_65 : decode cX2_readLine 65 = .ok (.getfield 19, 3) := by decide +kernel
theorem dX2_readLine_68 : decode cX2_readLine 68 = .ok (.iload_n 1, 1) := by decide +kernel
theorem dX2_readLine_69 : decode cX2_readLine 69 = .ok (.iload_n 3, 1) := by decide +kernel
theorem dX2_readLine_70 : decode cX2_readLine 70 = .ok (.iastore, 1) := by decide +kernel
theorem dX2_readLine_71 : decode cX2_readLine 71 = .ok (.aload_n 0, 1) := by decide +kernel
theorem dX2_readLine_72 : decode cX2_readLine 72 = .ok (.getfield 22, 3) := by decide +kernel
theorem dX2_readLine_75 : decode cX2_readLine 75 = .ok (.iload_n 1, 1) := by decide +kernel
theorem dX2_readLine_76 : decode cX2_readLine 76 = .ok (.iload 4, 2) := by decide +kernel
theorem dX2_readLine_78 : decode cX2_readLine 78 = .ok (.iastore, 1) := by decide +kernel
theorem dX2_readLine_79 : decode cX2_readLine 79 = .ok (.iconst 1, 1) := by decide +kernel
theorem dX2_readLine_80 : decode cX2_readLine 80 = .ok (.ireturn, 1) := by decide +kernel
theorem dX2_readWord_0 : decode cX2_readWord 0 = .ok (.aload_n 0, 1) := by decide +kernel
theorem dX2_readWord_1 : decode cX2_readWord 1 = .ok (.invokevirtual 53, 3) := by decide +kernel
theorem dX2_readWord_4 : decode cX2_readWord 4 = .ok (.tableswitch 106 107 116 #[56, 106, 106, 106, 106, 106, 106, 91, 61, 76], 56) := by decide +kernel
theorem dX2_readWord_60 : decode cX2_readWord 60 = .ok (.aload_n 0, 1) := by decide +kernel
theorem dX2_readWord_61 : decode cX2_readWord 61 = .ok (.invokevirtual 56, 3) := by decide +kernel
theorem dX2_readWord_64 : decode cX2_readWord 64 = .ok (.ireturn, 1) := by decide +kernel
theorem dX2_readWord_65 : decode cX2_readWord 65 = .ok (.aload_n 0, 1) := by decide +kernel
theorem dX2_readWord_66 : decode cX2_readWord 66 = .ok (.ldc 59, 2) := by decide +kernel
theorem dX2_readWord_68 : decode cX2_readWord 68 = .ok (.invokevirtual 41, 3) := by decide +kernel
theorem dX2_readWord_71 : decode cX2_readWord 71 = .ok (.ifCond .eq 7, 3) := by decide +kernel
theorem dX2_readWord_74 : decode cX2_readWord 74 = .ok (.iconst 1, 1) := by decide +kernel
theorem dX2_readWord_75 : decode cX2_readWord 75 = .ok (.goto 4, 3) := by decide +kernel
theorem dX2_readWord_78 : decode cX2_readWord 78 = .ok (.iconst (-1), 1) := by decide +kernel
theorem dX2_readWord_79 : decode cX2_readWord 79 = .ok (.ireturn, 1) := by decide +kernel
theorem dX2_readWord_80 : decode cX2_readWord 80 = .ok (.aload_n 0, 1) := by decide +kernel
theorem dX2_readWord_81 : decode cX2_readWord 81 = .ok (.ldc 61, 2) := by decide +kernel
theorem dX2_readWord_83 : decode cX2_readWord 83 = .ok (.invokevirtual 41, 3) := by decide +kernel
theorem dX2_readWord_86 : decode cX2_readWord 86 = .ok (.ifCond .eq 7, 3) := by decide +kernel
theorem dX2_readWord_89 : decode cX2_readWord 89 = .ok (.iconst 2, 1) := by decide +kernel
theorem dX2_readWord_90 : decode cX2_readWord 90 = .ok (.goto 4, 3) := by decide +kernel
theorem dX2_readWord_93 : decode cX2_readWord 93 = .ok (.iconst (-1), 1) := by decide +kernel
theorem dX2_readWord_94 : decode cX2_readWord 94 = .ok (.ireturn, 1) := by decide +kernel
theorem dX2_readWord_95 : decode cX2_readWord 95 = .ok (.aload_n 0, 1) := by decide +kernel
theorem dX2_readWord_96 : decode cX2_readWord 96 = .ok (.ldc 63, 2) := by decide +kernel
theorem dX2_readWord_98 : decode cX2_readWord 98 = .ok (.invokevirtual 41, 3) := by decide +kernel
theorem dX2_readWord_101 : decode cX2_readWord 101 = .ok (.ifCond .eq 7, 3) := by decide +kernel
theorem dX2_readWord_104 : decode cX2_readWord 104 = .ok (.iconst 3, 1) := by decide +kernel
theorem dX2_readWord_105 : decode cX2_readWord 105 = .ok (.goto 4, 3) := by decide +kernel
theorem dX2_readWord_108 : decode cX2_readWord 108 = .ok (.iconst (-1), 1) := by decide +kernel
theorem dX2_readWord_109 : decode cX2_readWord 109 = .ok (.ireturn, 1) := by decide +kernel
theorem dX2_readWord_110 : decode cX2_readWord 110 = .ok (.iconst (-1), 1) := by decide +kernel
theorem dX2_readWord_111 : decode cX2_readWord 111 = .ok (.ireturn, 1) := by decide +kernel
theorem dX2_readKeyOrKeys_0 : decode cX2_readKeyOrKeys 0 = .ok (.aload_n 0, 1) := by decide +kernel
theorem dX2_readKeyOrKeys_1 : decode cX2_readKeyOrKeys 1 = .ok (.ldc 65, 2) := by decide +kernel
theorem dX2_readKeyOrKeys_3 : decode cX2_readKeyOrKeys 3 = .ok (.invokevirtual 41, 3) := by decide +kernel
theorem dX2_readKeyOrKeys_6 : decode cX2_readKeyOrKeys 6 = .ok (.ifCond .ne 5, 3) := by decide +kernel
theorem dX2_readKeyOrKeys_9 : decode cX2_readKeyOrKeys 9 = .ok (.iconst (-1), 1) := by decide +kernel
theorem dX2_readKeyOrKeys_10 : decode cX2_readKeyOrKeys 10 = .ok (.ireturn, 1) := by decide +kernel
theorem dX2_readKeyOrKeys_11 : decode cX2_readKeyOrKeys 11 = .ok (.aload_n 0, 1) := by decide +kernel
theorem dX2_readKeyOrKeys_12 : decode cX2_readKeyOrKeys 12 = .ok (.ldc 67, 2) := by decide +kernel
theorem dX2_readKeyOrKeys_14 : decode cX2_readKeyOrKeys 14 = .ok (.invokevirtual 41, 3) := by decide +kernel
theorem dX2_readKeyOrKeys_17 : decode cX2_readKeyOrKeys 17 = .ok (.ifCond .eq 7, 3) := by decide +kernel
theorem dX2_readKeyOrKeys_20 : decode cX2_readKeyOrKeys 20 = .ok (.iconst 4, 1) := by decide +kernel
theorem dX2_readKeyOrKeys_21 : decode cX2_readKeyOrKeys 21 = .ok (.goto 4, 3) := by decide +kernel
theorem dX2_readKeyOrKeys_24 : decode cX2_readKeyOrKeys 24 = .ok (.iconst 0, 1) := by decide +kernel
theorem dX2_readKeyOrKeys_25 : decode cX2_readKeyOrKeys 25 = .ok (.ireturn, 1) := by decide +kernel
theorem dX2_readNumber_0 : decode cX2_readNumber 0 = .ok (.aload_n 0, 1) := by decide +kernel
theorem dX2_readNumber_1 : decode cX2_readNumber 1 = .ok (.ldc 69, 2) := by decide +kernel
theorem dX2_readNumber_3 : decode cX2_readNumber 3 = .ok (.invokevirtual 41, 3) := by decide +kernel
theorem dX2_readNumber_6 : decode cX2_readNumber 6 = .ok (.ifCond .ne 5, 3) := by decide +kernel
theorem dX2_readNumber_9 : decode cX2_readNumber 9 = .ok (.iconst (-1), 1) := by decide +kernel
theorem dX2_readNumber_10 : decode cX2_readNumber 10 = .ok (.ireturn, 1) := by decide +kernel
theorem dX2_readNumber_11 : decode cX2_readNumber 11 = .ok (.aload_n 0, 1) := by decide +kernel
theorem dX2_readNumber_12 : decode cX2_readNumber 12 = .ok (.invokevirtual 71, 3) := by decide +kernel
theorem dX2_readNumber_15 : decode cX2_readNumber 15 = .ok (.istore_n 3, 1) := by decide +kernel
theorem dX2_readNumber_16 : decode cX2_readNumber 16 = .ok (.iload_n 3, 1) := by decide +kernel
theorem dX2_readNumber_17 : decode cX2_readNumber 17 = .ok (.iload_n 1, 1) := by decide +kernel
theorem dX2_readNumber_18 : decode cX2_readNumber 18 = .ok (.if_icmp .lt 8, 3) := by decide +kernel
theorem dX2_readNumber_21 : decode cX2_readNumber 21 = .ok (.iload_n 3, 1) := by decide +kernel
theorem dX2_readNumber_22 : decode cX2_readNumber 22 = .ok (.iload_n 2, 1) := by decide +kernel
theorem dX2_readNumber_23 : decode cX2_readNumber 23 = .ok (.if_icmp .le 5, 3) := by decide +kernel
theorem dX2_readNumber_26 : decode cX2_readNumber 26 = .ok (.iconst (-1), 1) := by decide +kernel
theorem dX2_readNumber_27 : decode cX2_readNumber 27 = .ok (.ireturn, 1) := by decide +kernel
theorem dX2_readNumber_28 : decode cX2_readNumber 28 = .ok (.aload_n 0, 1) := by decide +kernel
theorem dX2_readNumber_29 : decode cX2_readNumber 29 = .ok (.dup, 1) := by decide +kernel
theorem dX2_readNumber_30 : decode cX2_readNumber 30 = .ok (.getfield 25, 3) := by decide +kernel
theorem dX2_readNumber_33 : decode cX2_readNumber 33 = .ok (.iconst 1, 1) := by decide +kernel
theorem dX2_readNumber_34 : decode cX2_readNumber 34 = .ok (.iadd, 1) := by decide +kernel
theorem dX2_readNumber_35 : decode cX2_readNumber 35 = .ok (.putfield 25, 3) := by decide +kernel
theorem dX2_readNumber_38 : decode cX2_readNumber 38 = .ok (.aload_n 0, 1) := by decide +kernel
theorem dX2_readNumber_39 : decode cX2_readNumber 39 = .ok (.getfield 25, 3) := by decide +kernel
theorem dX2_readNumber_42 : decode cX2_readNumber 42 = .ok (.aload_n 0, 1) := by decide +kernel
theorem dX2_readNumber_43 : decode cX2_readNumber 43 = .ok (.getfield 36, 3) := by decide +kernel
theorem dX2_readNumber_46 : decode cX2_readNumber 46 = .ok (.if_icmp .ge 49, 3) := by decide +kernel
theorem dX2_readNumber_49 : decode cX2_readNumber 49 = .ok (.iload_n 3, 1) := by decide +kernel
theorem dX2_readNumber_50 : decode cX2_readNumber 50 = .ok (.ifCond .le 45, 3) := by decide +kernel
theorem dX2_readNumber_53 : decode cX2_readNumber 53 = .ok (.bipush 10, 2) := by decide +kernel
theorem dX2_readNumber_55 : decode cX2_readNumber 55 = .ok (.iload_n 3, 1) := by decide +kernel
theorem dX2_readNumber_56 : decode cX2_readNumber 56 = .ok (.imul, 1) := by decide +kernel
theorem dX2_readNumber_57 : decode cX2_readNumber 57 = .ok (.aload_n 0, 1) := by decide +kernel
theorem dX2_readNumber_58 : decode cX2_readNumber 58 = .ok (.invokevirtual 71, 3) := by decide +kernel
theorem dX2_readNumber_61 : decode cX2_readNumber 61 = .ok (.iadd, 1) := by decide +kernel
theorem dX2_readNumber_62 : decode cX2_readNumber 62 = .ok (.istore 4, 2) := by decide +kernel
theorem dX2_readNumber_64 : decode cX2_readNumber 64 = .ok (.aload_n 0, 1) := by decide +kernel
theorem dX2_readNumber_65 : decode cX2_readNumber 65 = .ok (.invokevirtual 71, 3) := by decide +kernel
theorem dX2_readNumber_68 : decode cX2_readNumber 68 = .ok (.ifCond .lt 9, 3) := by decide +kernel
theorem dX2_readNumber_71 : decode cX2_readNumber 71 = .ok (.iload 4, 2) := by decide +kernel
theorem dX2_readNumber_73 : decode cX2_readNumber 73 = .ok (.iload_n 2, 1) := by decide +kernel
theorem dX2_readNumber_74 : decode cX2_readNumber 74 = .ok (.if_icmp .le 5, 3) := by decide +kernel
theorem dX2_readNumber_77 : decode cX2_readNumber 77 = .ok (.iload_n 3, 1) := by decide +kernel
theorem dX2_readNumber_78 : decode cX2_readNumber 78 = .ok (.ireturn, 1) := by decide +kernel
theorem dX2_readNumber_79 : decode cX2_readNumber 79 = .ok (.iload 4, 2) := by decide +kernel
theorem dX2_readNumber_81 : decode cX2_readNumber 81 = .ok (.istore_n 3, 1) := by decide +kernel
theorem dX2_readNumber_82 : decode cX2_readNumber 82 = .ok (.aload_n 0, 1) := by decide +kernel
theorem dX2_readNumber_83 : decode cX2_readNumber 83 = .ok (.dup, 1) := by decide +kernel
theorem dX2_readNumber_84 : decode cX2_readNumber 84 = .ok (.getfield 25, 3) := by decide +kernel
theorem dX2_readNumber_87 : decode cX2_readNumber 87 = .ok (.iconst 1, 1) := by decide +kernel
theorem dX2_readNumber_88 : decode cX2_readNumber 88 = .ok (.iadd, 1) := by decide +kernel
theorem dX2_readNumber_89 : decode cX2_readNumber 89 = .ok (.putfield 25, 3) := by decide +kernel
theorem dX2_readNumber_92 : decode cX2_readNumber 92 = .ok (.goto (-54), 3) := by decide +kernel
theorem dX2_readNumber_95 : decode cX2_readNumber 95 = .ok (.iload_n 3, 1) := by decide +kernel
theorem dX2_readNumber_96 : decode cX2_readNumber 96 = .ok (.ireturn, 1) := by decide +kernel
theorem dX2_pass_0 : decode cX2_pass 0 = .ok (.iconst 0, 1) := by decide +kernel
theorem dX2_pass_1 : decode cX2_pass 1 = .ok (.istore_n 2, 1) := by decide +kernel
theorem dX2_pass_2 : decode cX2_pass 2 = .ok (.iload_n 2, 1) := by decide +kernel
theorem dX2_pass_3 : decode cX2_pass 3 = .ok (.aload_n 1, 1) := by decide +kernel
theorem dX2_pass_4 : decode cX2_pass 4 = .ok (.invokevirtual 74, 3) := by decide +kernel
theorem dX2_pass_7 : decode cX2_pass 7 = .ok (.if_icmp .ge 33, 3) := by decide +kernel
theorem dX2_pass_10 : decode cX2_pass 10 = .ok (.aload_n 0, 1) := by decide +kernel
theorem dX2_pass_11 : decode cX2_pass 11 = .ok (.invokevirtual 53, 3) := by decide +kernel
theorem dX2_pass_14 : decode cX2_pass 14 = .ok (.aload_n 1, 1) := by decide +kernel
theorem dX2_pass_15 : decode cX2_pass 15 = .ok (.iload_n 2, 1) := by decide +kernel
theorem dX2_pass_16 : decode cX2_pass 16 = .ok (.invokevirtual 78, 3) := by decide +kernel
theorem dX2_pass_19 : decode cX2_pass 19 = .ok (.if_icmp .eq 5, 3) := by decide +kernel
theorem dX2_pass_22 : decode cX2_pass 22 = .ok (.iconst 0, 1) := by decide +kernel
theorem dX2_pass_23 : decode cX2_pass 23 = .ok (.ireturn, 1) := by decide +kernel
theorem dX2_pass_24 : decode cX2_pass 24 = .ok (.aload_n 0, 1) := by decide +kernel
theorem dX2_pass_25 : decode cX2_pass 25 = .ok (.dup, 1) := by decide +kernel
theorem dX2_pass_26 : decode cX2_pass 26 = .ok (.getfield 25, 3) := by decide +kernel
theorem dX2_pass_29 : decode cX2_pass 29 = .ok (.iconst 1, 1) := by decide +kernel
theorem dX2_pass_30 : decode cX2_pass 30 = .ok (.iadd, 1) := by decide +kernel
theorem dX2_pass_31 : decode cX2_pass 31 = .ok (.putfield 25, 3) := by decide +kernel
theorem dX2_pass_34 : decode cX2_pass 34 = .ok (.iinc 2 1, 3) := by decide +kernel
theorem dX2_pass_37 : decode cX2_pass 37 = .ok (.goto (-35), 3) := by decide +kernel
theorem dX2_pass_40 : decode cX2_pass 40 = .ok (.iconst 1, 1) := by decide +kernel
theorem dX2_pass_41 : decode cX2_pass 41 = .ok (.ireturn, 1) := by decide +kernel
theorem dX2_sign_0 : decode cX2_sign 0 = .ok (.aload_n 0, 1) := by decide +kernel
theorem dX2_sign_1 : decode cX2_sign 1 = .ok (.getfield 25, 3) := by decide +kernel
theorem dX2_sign_4 : decode cX2_sign 4 = .ok (.ifCond .lt 35, 3) := by decide +kernel
theorem dX2_sign_7 : decode cX2_sign 7 = .ok (.aload_n 0, 1) := by decide +kernel
theorem dX2_sign_8 : decode cX2_sign 8 = .ok (.getfield 25, 3) := by decide +kernel
theorem dX2_sign_11 : decode cX2_sign 11 = .ok (.aload_n 0, 1) := by decide +kernel
theorem dX2_sign_12 : decode cX2_sign 12 = .ok (.getfield 36, 3) := by decide +kernel
theorem dX2_sign_15 : decode cX2_sign 15 = .ok (.if_icmp .ge 24, 3) := by decide +kernel
theorem dX2_sign_18 : decode cX2_sign 18 = .ok (.aload_n 0, 1) := by decide +kernel
theorem dX2_sign_19 : decode cX2_sign 19 = .ok (.getfield 25, 3) := by decide +kernel
theorem dX2_sign_22 : decode cX2_sign 22 = .ok (.bipush 80, 2) := by decide +kernel
theorem dX2_sign_24 : decode cX2_sign 24 = .ok (.if_icmp .ge 15, 3) := by decide +kernel
theorem dX2_sign_27 : decode cX2_sign 27 = .ok (.aload_n 0, 1) := by decide +kernel
theorem dX2_sign_28 : decode cX2_sign 28 = .ok (.getfield 9, 3) := by decide +kernel
theorem dX2_sign_31 : decode cX2_sign 31 = .ok (.aload_n 0, 1) := by decide +kernel
theorem dX2_sign_32 : decode cX2_sign 32 = .ok (.getfield 25, 3) := by decide +kernel
theorem dX2_sign_35 : decode cX2_sign 35 = .ok (.caload, 1) := by decide +kernel
theorem dX2_sign_36 : decode cX2_sign 36 = .ok (.goto 4, 3) := by decide +kernel
theorem dX2_sign_39 : decode cX2_sign 39 = .ok (.iconst (-1), 1) := by decide +kernel
theorem dX2_sign_40 : decode cX2_sign 40 = .ok (.ireturn, 1) := by decide +kernel
theorem dX2_digit_0 : decode cX2_digit 0 = .ok (.aload_n 0, 1) := by decide +kernel
theorem dX2_digit_1 : decode cX2_digit 1 = .ok (.invokevirtual 53, 3) := by decide +kernel
theorem dX2_digit_4 : decode cX2_digit 4 = .ok (.istore_n 1, 1) := by decide +kernel
theorem dX2_digit_5 : decode cX2_digit 5 = .ok (.iload_n 1, 1) := by decide +kernel
theorem dX2_digit_6 : decode cX2_digit 6 = .ok (.bipush 48, 2) := by decide +kernel
theorem dX2_digit_8 : decode cX2_digit 8 = .ok (.if_icmp .lt 16, 3) := by decide +kernel
theorem dX2_digit_11 : decode cX2_digit 11 = .ok (.iload_n 1, 1) := by decide +kernel
theorem dX2_digit_12 : decode cX2_digit 12 = .ok (.bipush 57, 2) := by decide +kernel
theorem dX2_digit_14 : decode cX2_digit 14 = .ok (.if_icmp .gt 10, 3) := by decide +kernel
theorem dX2_digit_17 : decode cX2_digit 17 = .ok (.iload_n 1, 1) := by decide +kernel
theorem dX2_digit_18 : decode cX2_digit 18 = .ok (.bipush 48, 2) := by decide +kernel
theorem dX2_digit_20 : decode cX2_digit 20 = .ok (.isub, 1) := by decide +kernel
theorem dX2_digit_21 : decode cX2_digit 21 = .ok (.goto 4, 3) := by decide +kernel
theorem dX2_digit_24 : decode cX2_digit 24 = .ok (.iconst (-1), 1) := by decide +kernel
theorem dX2_digit_25 : decode cX2_digit 25 = .ok (.ireturn, 1) := by decide +kernel
theorem dX3_init_0 : decode cX3_init 0 = .ok (.aload_n 0, 1) := by decide +kernel
theorem dX3_init_1 : decode cX3_init 1 = .ok (.invokespecial 3, 3) := by decide +kernel
theorem dX3_init_4 : decode cX3_init 4 = .ok (.aload_n 0, 1) := by decide +kernel
theorem dX3_init_5 : decode cX3_init 5 = .ok (.iconst 4, 1) := by decide +kernel
theorem dX3_init_6 : decode cX3_init 6 = .ok (.anewarray 9, 3) := by decide +kernel
theorem dX3_init_9 : decode cX3_init 9 = .ok (.putfield 11, 3) := by decide +kernel
theorem dX3_init_12 : decode cX3_init 12 = .ok (.aload_n 0, 1) := by decide +kernel
theorem dX3_init_13 : decode cX3_init 13 = .ok (.bipush 12, 2) := by decide +kernel
theorem dX3_init_15 : decode cX3_init 15 = .ok (.anewarray 17, 3) := by decide +kernel
theorem dX3_init_18 : decode cX3_init 18 = .ok (.putfield 19, 3) := by decide +kernel
theorem dX3_init_21 : decode cX3_init 21 = .ok (.aload_n 0, 1) := by decide +kernel
theorem dX3_init_22 : decode cX3_init 22 = .ok (.iconst 5, 1) := by decide +kernel
theorem dX3_init_23 : decode cX3_init 23 = .ok (.newarray .int, 2) := by decide +kernel
theorem dX3_init_25 : decode cX3_init 25 = .ok (.dup, 1) := by decide +kernel
theorem dX3_init_26 : decode cX3_init 26 = .ok (.iconst 0, 1) := by decide +kernel
theorem dX3_init_27 : decode cX3_init 27 = .ok (.bipush 50, 2) := by decide +kernel
theorem dX3_init_29 : decode cX3_init 29 = .ok (.iastore, 1) := by decide +kernel
theorem dX3_init_30 : decode cX3_init 30 = .ok (.dup, 1) := by decide +kernel
theorem dX3_init_31 : decode cX3_init 31 = .ok (.iconst 1, 1) := by decide +kernel
theorem dX3_init_32 : decode cX3_init 32 = .ok (.iconst 2, 1) := by decide +kernel
theorem dX3_init_33 : decode cX3_init 33 = .ok (.iastore, 1) := by decide +kernel
theorem dX3_init_34 : decode cX3_init 34 = .ok (.dup, 1) := by decide +kernel
theorem dX3_init_35 : decode cX3_init 35 = .ok (.iconst 2, 1) := by decide +kernel
theorem dX3_init_36 : decode cX3_init 36 = .ok (.bipush 20, 2) := by decide +kernel
theorem dX3_init_38 : decode cX3_init 38 = .ok (.iastore, 1) := by decide +kernel
theorem dX3_init_39 : decode cX3_init 39 = .ok (.dup, 1) := by decide +kernel
theorem dX3_init_40 : decode cX3_init 40 = .ok (.iconst 3, 1) := by decide +kernel
theorem dX3_init_41 : decode cX3_init 41 = .ok (.bipush 6, 2) := by decide +kernel
theorem dX3_init_43 : decode cX3_init 43 = .ok (.iastore, 1) := by decide +kernel
theorem dX3_init_44 : decode cX3_init 44 = .ok (.dup, 1) := by decide +kernel
theorem dX3_init_45 : decode cX3_init 45 = .ok (.iconst 4, 1) := by decide +kernel
theorem dX3_init_46 : decode cX3_init 46 = .ok (.iconst 4, 1) := by decide +kernel
theorem dX3_init_47 : decode cX3_init 47 = .ok (.iastore, 1) := by decide +kernel
theorem dX3_init_48 : decode cX3_init 48 = .ok (.putfield 23, 3) := by decide +kernel
theorem dX3_init_51 : decode cX3_init 51 = .ok (.iconst 0, 1) := by decide +kernel
theorem dX3_init_52 : decode cX3_init 52 = .ok (.istore_n 1, 1) := by decide +kernel
theorem dX3_init_53 : decode cX3_init 53 = .ok (.iload_n 1, 1) := by decide +kernel
theorem dX3_init_54 : decode cX3_init 54 = .ok (.iconst 4, 1) := by decide +kernel
theorem dX3_init_55 : decode cX3_init 55 = .ok (.if_icmp .ge 22, 3) := by decide +kernel
theorem dX3_init_58 : decode cX3_init 58 = .ok (.aload_n 0, 1) := by decide +kernel
theorem dX3_init_59 : decode cX3_init 59 = .ok (.getfield 11, 3) := by decide +kernel
theorem dX3_init_62 : decode cX3_init 62 = .ok (.iload_n 1, 1) := by decide +kernel
theorem dX3_init_63 : decode cX3_init 63 = .ok (.new 9, 3) := by decide +kernel
theorem dX3_init_66 : decode cX3_init 66 = .ok (.dup, 1) := by decide +kernel
theorem dX3_init_67 : decode cX3_init 67 = .ok (.invokespecial 27, 3) := by decide +kernel
theorem dX3_init_70 : decode cX3_init 70 = .ok (.aastore, 1) := by decide +kernel
theorem dX3_init_71 : decode cX3_init 71 = .ok (.iinc 1 1, 3) := by decide +kernel
theorem dX3_init_74 : decode cX3_init 74 = .ok (.goto (-21), 3) := by decide +kernel
theorem dX3_init_77 : decode cX3_init 77 = .ok (.iconst 0, 1) := by decide +kernel
theorem dX3_init_78 : decode cX3_init 78 = .ok (.istore_n 1, 1) := by decide +kernel
theorem dX3_init_79 : decode cX3_init 79 = .ok (.iload_n 1, 1) := by decide +kernel
theorem dX3_init_80 : decode cX3_init 80 = .ok (.bipush 12, 2) := by decide +kernel
theorem dX3_init_82 : decode cX3_init 82 = .ok (.if_icmp .ge 22, 3) := by decide +kernel
theorem dX3_init_85 : decode cX3_init 85 = .ok (.aload_n 0, 1) := by decide +kernel
theorem dX3_init_86 : decode cX3_init 86 = .ok (.getfield 19, 3) := by decide +kernel
theorem dX3_init_89 : decode cX3_init 89 = .ok (.iload_n 1, 1) := by decide +kernel
theorem dX3_init_90 : decode cX3_init 90 = .ok (.new 17, 3) := by decide +kernel
theorem dX3_init_93 : decode cX3_init 93 = .ok (.dup, 1) := by decide +kernel
theorem dX3_init_94 : decode cX3_init 94 = .ok (.invokespecial 28, 3) := by decide +kernel
theorem dX3_init_97 : decode cX3_init 97 = .ok (.aastore, 1) := by decide +kernel
theorem dX3_init_98 : decode cX3_init 98 = .ok (.iinc 1 1, 3) := by decide +kernel
theorem dX3_init_101 : decode cX3_init 101 = .ok (.goto (-22), 3) := by decide +kernel
theorem dX3_init_104 : decode cX3_init 104 = .ok (.return_, 1) := by decide +kernel
theorem dX3_copyFrom_0 : decode cX3_copyFrom 0 = .ok (.iconst 0, 1) := by decide +kernel
theorem dX3_copyFrom_1 : decode cX3_copyFrom 1 = .ok (.istore_n 2, 1) := by decide +kernel
theorem dX3_copyFrom_2 : decode cX3_copyFrom 2 = .ok (.iload_n 2, 1) := by decide +kernel
theorem dX3_copyFrom_3 : decode cX3_copyFrom 3 = .ok (.iconst 4, 1) := by decide +kernel
theorem dX3_copyFrom_4 : decode cX3_copyFrom 4 = .ok (.if_icmp .ge 24, 3) := by decide +kernel
theorem dX3_copyFrom_7 : decode cX3_copyFrom 7 = .ok (.aload_n 0, 1) := by decide +kernel
theorem dX3_copyFrom_8 : decode cX3_copyFrom 8 = .ok (.getfield 11, 3) := by decide +kernel
theorem dX3_copyFrom_11 : decode cX3_copyFrom 11 = .ok (.iload_n 2, 1) := by decide +kernel
theorem dX3_copyFrom_12 : decode cX3_copyFrom 12 = .ok (.aaload, 1) := by decide +kernel
theorem dX3_copyFrom_13 : decode cX3_copyFrom 13 = .ok (.aload_n 1, 1) := by decide +kernel
theorem dX3_copyFrom_14 : decode cX3_copyFrom 14 = .ok (.getfield 11, 3) := by decide +kernel
theorem dX3_copyFrom_17 : decode cX3_copyFrom 17 = .ok (.iload_n 2, 1) := by decide +kernel
theorem dX3_copyFrom_18 : decode cX3_copyFrom 18 = .ok (.aaload, 1) := by decide +kernel
theorem dX3_copyFrom_19 : decode cX3_copyFrom 19 = .ok (.invokevirtual 29, 3) := by decide +kernel
theorem dX3_copyFrom_22 : decode cX3_copyFrom 22 = .ok (.iinc 2 1, 3) := by decide +kernel
theorem dX3_copyFrom_25 : decode cX3_copyFrom 25 = .ok (.goto (-23), 3) := by decide +kernel
theorem dX3_copyFrom_28 : decode cX3_copyFrom 28 = .ok (.iconst 0, 1) := by decide +kernel
theorem dX3_copyFrom_29 : decode cX3_copyFrom 29 = .ok (.istore_n 2, 1) := by decide +kernel
theorem dX3_copyFrom_30 : decode cX3_copyFrom 30 = .ok (.iload_n 2, 1) := by decide +kernel
theorem dX3_copyFrom_31 : decode cX3_copyFrom 31 = .ok (.bipush 12, 2) := by decide +kernel
theorem dX3_copyFrom_33 : decode cX3_copyFrom 33 = .ok (.if_icmp .ge 24, 3) := by decide +kernel
theorem dX3_copyFrom_36 : decode cX3_copyFrom 36 = .ok (.aload_n 0, 1) := by decide +kernel
theorem dX3_copyFrom_37 : decode cX3_copyFrom 37 = .ok (.getfield 19, 3) := by decide +kernel
theorem dX3_copyFrom_40 : decode cX3_copyFrom 40 = .ok (.iload_n 2, 1) := by decide +kernel
theorem dX3_copyFrom_41 : decode cX3_copyFrom 41 = .ok (.aaload, 1) := by decide +kernel
theorem dX3_copyFrom_42 : decode cX3_copyFrom 42 = .ok (.aload_n 1, 1) := by decide +kernel
theorem dX3_copyFrom_43 : decode cX3_copyFrom 43 = .ok (.getfield 19, 3) := by decide +kernel
theorem dX3_copyFrom_46 : decode cX3_copyFrom 46 = .ok (.iload_n 2, 1) := by decide +kernel
theorem dX3_copyFrom_47 : decode cX3_copyFrom 47 = .ok (.aaload, 1) := by decide +kernel
theorem dX3_copyFrom_48 : decode cX3_copyFrom 48 = .ok (.invokevirtual 33, 3) := by decide +kernel
theorem dX3_copyFrom_51 : decode cX3_copyFrom 51 = .ok (.iinc 2 1, 3) := by decide +kernel
theorem dX3_copyFrom_54 : decode cX3_copyFrom 54 = .ok (.goto (-24), 3) := by decide +kernel
theorem dX3_copyFrom_57 : decode cX3_copyFrom 57 = .ok (.iconst 0, 1) := by decide +kernel
theorem dX3_copyFrom_58 : decode cX3_copyFrom 58 = .ok (.istore_n 2, 1) := by decide +kernel
theorem dX3_copyFrom_59 : decode cX3_copyFrom 59 = .ok (.iload_n 2, 1) := by decide +kernel
theorem dX3_copyFrom_60 : decode cX3_copyFrom 60 = .ok (.iconst 5, 1) := by decide +kernel
theorem dX3_copyFrom_61 : decode cX3_copyFrom 61 = .ok (.if_icmp .ge 21, 3) := by decide +kernel
theorem dX3_copyFrom_64 : decode cX3_copyFrom 64 = .ok (.aload_n 0, 1) := by decide +kernel
theorem dX3_copyFrom_65 : decode cX3_copyFrom 65 = .ok (.getfield 23, 3) := by decide +kernel
theorem dX3_copyFrom_68 : decode cX3_copyFrom 68 = .ok (.iload_n 2, 1) := by decide +kernel
theorem dX3_copyFrom_69 : decode cX3_copyFrom 69 = .ok (.aload_n 1, 1) := by decide +kernel
theorem dX3_copyFrom_70 : decode cX3_copyFrom 70 = .ok (.getfield 23, 3) := by decide +kernel
theorem dX3_copyFrom_73 : decode cX3_copyFrom 73 = .ok (.iload_n 2, 1) := by decide +kernel
theorem dX3_copyFrom_74 : decode cX3_copyFrom 74 = .ok (.iaload, 1) := by decide +kernel
theorem dX3_copyFrom_75 : decode cX3_copyFrom 75 = .ok (.iastore, 1) := by decide +kernel
theorem dX3_copyFrom_76 : decode cX3_copyFrom 76 = .ok (.iinc 2 1, 3) := by decide +kernel
theorem dX3_copyFrom_79 : decode cX3_copyFrom 79 = .ok (.goto (-20), 3) := by decide +kernel
theorem dX3_copyFrom_82 : decode cX3_copyFrom 82 = .ok (.aload_n 0, 1) := by decide +kernel
theorem dX3_copyFrom_83 : decode cX3_copyFrom 83 = .ok (.aload_n 1, 1) := by decide +kernel
theorem dX3_copyFrom_84 : decode cX3_copyFrom 84 = .ok (.getfield 36, 3) := by decide +kernel
theorem dX3_copyFrom_87 : decode cX3_copyFrom 87 = .ok (.putfield 36, 3) := by decide +kernel
theorem dX3_copyFrom_90 : decode cX3_copyFrom 90 = .ok (.aload_n 0, 1) := by decide +kernel
theorem dX3_copyFrom_91 : decode cX3_copyFrom 91 = .ok (.aload_n 1, 1) := by decide +kernel
theorem dX3_copyFrom_92 : decode cX3_copyFrom 92 = .ok (.getfield 40, 3) := by decide +kernel
theorem dX3_copyFrom_95 : decode cX3_copyFrom 95 = .ok (.putfield 40, 3) := by decide +kernel
theorem dX3_copyFrom_98 : decode cX3_copyFrom 98 = .ok (.aload_n 0, 1) := by decide +kernel
theorem dX3_copyFrom_99 : decode cX3_copyFrom 99 = .ok (.aload_n 1, 1) := by decide +kernel
theorem dX3_copyFrom_100 : decode cX3_copyFrom 100 = .ok (.getfield 43, 3) := by decide +kernel
theorem dX3_copyFrom_103 : decode cX3_copyFrom 103 = .ok (.putfield 43, 3) := by decide +kernel
theorem dX3_copyFrom_106 : decode cX3_copyFrom 106 = .ok (.aload_n 0, 1) := by decide +kernel
theorem dX3_copyFrom_107 : decode cX3_copyFrom 107 = .ok (.aload_n 1, 1) := by decide +kernel
theorem dX3_copyFrom_108 : decode cX3_copyFrom 108 = .ok (.getfield 46, 3) := by decide +kernel
theorem dX3_copyFrom_111 : decode cX3_copyFrom 111 = .ok (.putfield 46, 3) := by decide +kernel
theorem dX3_copyFrom_114 : decode cX3_copyFrom 114 = .ok (.aload_n 0, 1) := by decide +kernel
theorem dX3_copyFrom_115 : decode cX3_copyFrom 115 = .ok (.aload_n 1, 1) := by decide +kernel
theorem dX3_copyFrom_116 : decode cX3_copyFrom 116 = .ok (.getfield 49, 3) := by decide +kernel
theorem dX3_copyFrom_119 : decode cX3_copyFrom 119 = .ok (.putfield 49, 3) := by decide +kernel
theorem dX3_copyFrom_122 : decode cX3_copyFrom 122 = .ok (.aload_n 0, 1) := by decide +kernel
theorem dX3_copyFrom_123 : decode cX3_copyFrom 123 = .ok (.aload_n 1, 1) := by decide +kernel
theorem dX3_copyFrom_124 : decode cX3_copyFrom 124 = .ok (.getfield 52, 3) := by decide +kernel
theorem dX3_copyFrom_127 : decode cX3_copyFrom 127 = .ok (.putfield 52, 3) := by decide +kernel
theorem dX3_copyFrom_130 : decode cX3_copyFrom 130 = .ok (.aload_n 0, 1) := by decide +kernel
theorem dX3_copyFrom_131 : decode cX3_copyFrom 131 = .ok (.aload_n 1, 1) := by decide +kernel
theorem dX3_copyFrom_132 : decode cX3_copyFrom 132 = .ok (.getfield 55, 3) := by decide +kernel
theorem dX3_copyFrom_135 : decode cX3_copyFrom 135 = .ok (.putfield 55, 3) := by decide +kernel
theorem dX3_copyFrom_138 : decode cX3_copyFrom 138 = .ok (.return_, 1) := by decide +kernel
theorem dX3_resize_0 : decode cX3_resize 0 = .ok (.iload_n 2, 1) := by decide +kernel
theorem dX3_resize_1 : decode cX3_resize 1 = .ok (.ifCond .eq 16, 3) := by decide +kernel
theorem dX3_resize_4 : decode cX3_resize 4 = .ok (.aload_n 0, 1) := by decide +kernel
theorem dX3_resize_5 : decode cX3_resize 5 = .ok (.getfield 11, 3) := by decide +kernel
theorem dX3_resize_8 : decode cX3_resize 8 = .ok (.iload_n 1, 1) := by decide +kernel
theorem dX3_resize_9 : decode cX3_resize 9 = .ok (.aaload, 1) := by decide +kernel
theorem dX3_resize_10 : decode cX3_resize 10 = .ok (.iload_n 3, 1) := by decide +kernel
theorem dX3_resize_11 : decode cX3_resize 11 = .ok (.putfield 58, 3) := by decide +kernel
theorem dX3_resize_14 : decode cX3_resize 14 = .ok (.goto 13, 3) := by decide +kernel
theorem dX3_resize_17 : decode cX3_resize 17 = .ok (.aload_n 0, 1) := by decide +kernel
theorem dX3_resize_18 : decode cX3_resize 18 = .ok (.getfield 11, 3) := by decide +kernel
theorem dX3_resize_21 : decode cX3_resize 21 = .ok (.iload_n 1, 1) := by decide +kernel
theorem dX3_resize_22 : decode cX3_resize 22 = .ok (.aaload, 1) := by decide +kernel
theorem dX3_resize_23 : decode cX3_resize 23 = .ok (.iload_n 3, 1) := by decide +kernel
theorem dX3_resize_24 : decode cX3_resize 24 = .ok (.putfield 61, 3) := by decide +kernel
theorem dX3_resize_27 : decode cX3_resize 27 = .ok (.return_, 1) := by decide +kernel
theorem dX3_tableUnder_0 : decode cX3_tableUnder 0 = .ok (.aload_n 0, 1) := by decide +kernel
theorem dX3_tableUnder_1 : decode cX3_tableUnder 1 = .ok (.getfield 11, 3) := by decide +kernel
theorem dX3_tableUnder_4 : decode cX3_tableUnder 4 = .ok (.iload_n 1, 1) := by decide +kernel
theorem dX3_tableUnder_5 : decode cX3_tableUnder 5 = .ok (.iconst 3, 1) := by decide +kernel
theorem dX3_tableUnder_6 : decode cX3_tableUnder 6 = .ok (.idiv, 1) := by decide +kernel
theorem dX3_tableUnder_7 : decode cX3_tableUnder 7 = .ok (.aaload, 1) := by decide +kernel
theorem dX3_tableUnder_8 : decode cX3_tableUnder 8 = .ok (.areturn, 1) := by decide +kernel
theorem dX3_priceBy_0 : decode cX3_priceBy 0 = .ok (.iload_n 1, 1) := by decide +kernel
theorem dX3_priceBy_1 : decode cX3_priceBy 1 = .ok (.iconst 3, 1) := by decide +kernel
theorem dX3_priceBy_2 : decode cX3_priceBy 2 = .ok (.irem, 1) := by decide +kernel
theorem dX3_priceBy_3 : decode cX3_priceBy 3 = .ok (.istore 4, 2) := by decide +kernel
theorem dX3_priceBy_5 : decode cX3_priceBy 5 = .ok (.aload_n 0, 1) := by decide +kernel
theorem dX3_priceBy_6 : decode cX3_priceBy 6 = .ok (.iload_n 1, 1) := by decide +kernel
theorem dX3_priceBy_7 : decode cX3_priceBy 7 = .ok (.invokevirtual 64, 3) := by decide +kernel
theorem dX3_priceBy_10 : decode cX3_priceBy 10 = .ok (.getfield 61, 3) := by decide +kernel
theorem dX3_priceBy_13 : decode cX3_priceBy 13 = .ok (.istore 5, 2) := by decide +kernel
theorem dX3_priceBy_15 : decode cX3_priceBy 15 = .ok (.iload_n 2, 1) := by decide +kernel
theorem dX3_priceBy_16 : decode cX3_priceBy 16 = .ok (.ifCond .ne 28, 3) := by decide +kernel
theorem dX3_priceBy_19 : decode cX3_priceBy 19 = .ok (.iload 4, 2) := by decide +kernel
theorem dX3_priceBy_21 : decode cX3_priceBy 21 = .ok (.iconst 2, 1) := by decide +kernel
theorem dX3_priceBy_22 : decode cX3_priceBy 22 = .ok (.if_icmp .ne 15, 3) := by decide +kernel
theorem dX3_priceBy_25 : decode cX3_priceBy 25 = .ok (.iload 5, 2) := by decide +kernel
theorem dX3_priceBy_27 : decode cX3_priceBy 27 = .ok (.iload_n 3, 1) := by decide +kernel
theorem dX3_priceBy_28 : decode cX3_priceBy 28 = .ok (.iload_n 3, 1) := by decide +kernel
theorem dX3_priceBy_29 : decode cX3_priceBy 29 = .ok (.invokestatic 68, 3) := by decide +kernel
theorem dX3_priceBy_32 : decode cX3_priceBy 32 = .ok (.imul, 1) := by decide +kernel
theorem dX3_priceBy_33 : decode cX3_priceBy 33 = .ok (.iadd, 1) := by decide +kernel
theorem dX3_priceBy_34 : decode cX3_priceBy 34 = .ok (.goto 5, 3) := by decide +kernel
theorem dX3_priceBy_37 : decode cX3_priceBy 37 = .ok (.iload 5, 2) := by decide +kernel
theorem dX3_priceBy_39 : decode cX3_priceBy 39 = .ok (.istore 6, 2) := by decide +kernel
theorem dX3_priceBy_41 : decode cX3_priceBy 41 = .ok (.goto 62, 3) := by decide +kernel
theorem dX3_priceBy_44 : decode cX3_priceBy 44 = .ok (.iload_n 2, 1) := by decide +kernel
theorem dX3_priceBy_45 : decode cX3_priceBy 45 = .ok (.iconst 1, 1) := by decide +kernel
theorem dX3_priceBy_46 : decode cX3_priceBy 46 = .ok (.if_icmp .ne 32, 3) := by decide +kernel
theorem dX3_priceBy_49 : decode cX3_priceBy 49 = .ok (.iload 5, 2) := by decide +kernel
theorem dX3_priceBy_51 : decode cX3_priceBy 51 = .ok (.invokestatic 68, 3) := by decide +kernel
theorem dX3_priceBy_54 : decode cX3_priceBy 54 = .ok (.aload_n 0, 1) := by decide +kernel
theorem dX3_priceBy_55 : decode cX3_priceBy 55 = .ok (.iload_n 1, 1) := by decide +kernel
theorem dX3_priceBy_56 : decode cX3_priceBy 56 = .ok (.iload_n 3, 1) := by decide +kernel
theorem dX3_priceBy_57 : decode cX3_priceBy 57 = .ok (.invokevirtual 72, 3) := by decide +kernel
theorem dX3_priceBy_60 : decode cX3_priceBy 60 = .ok (.iload 4, 2) := by decide +kernel
theorem dX3_priceBy_62 : decode cX3_priceBy 62 = .ok (.iconst 2, 1) := by decide +kernel
theorem dX3_priceBy_63 : decode cX3_priceBy 63 = .ok (.if_icmp .ne 7, 3) := by decide +kernel
theorem dX3_priceBy_66 : decode cX3_priceBy 66 = .ok (.iconst 1, 1) := by decide +kernel
theorem dX3_priceBy_67 : decode cX3_priceBy 67 = .ok (.goto 4, 3) := by decide +kernel
theorem dX3_priceBy_70 : decode cX3_priceBy 70 = .ok (.iconst 3, 1) := by decide +kernel
theorem dX3_priceBy_71 : decode cX3_priceBy 71 = .ok (.imul, 1) := by decide +kernel
theorem dX3_priceBy_72 : decode cX3_priceBy 72 = .ok (.iadd, 1) := by decide +kernel
theorem dX3_priceBy_73 : decode cX3_priceBy 73 = .ok (.istore 6, 2) := by decide +kernel
theorem dX3_priceBy_75 : decode cX3_priceBy 75 = .ok (.goto 28, 3) := by decide +kernel
theorem dX3_priceBy_78 : decode cX3_priceBy 78 = .ok (.iload 4, 2) := by decide +kernel
theorem dX3_priceBy_80 : decode cX3_priceBy 80 = .ok (.iconst 2, 1) := by decide +kernel
theorem dX3_priceBy_81 : decode cX3_priceBy 81 = .ok (.if_icmp .ne 16, 3) := by decide +kernel
theorem dX3_priceBy_84 : decode cX3_priceBy 84 = .ok (.iload 5, 2) := by decide +kernel
theorem dX3_priceBy_86 : decode cX3_priceBy 86 = .ok (.iload_n 3, 1) := by decide +kernel
theorem dX3_priceBy_87 : decode cX3_priceBy 87 = .ok (.iload 5, 2) := by decide +kernel
theorem dX3_priceBy_89 : decode cX3_priceBy 89 = .ok (.invokestatic 68, 3) := by decide +kernel
theorem dX3_priceBy_92 : decode cX3_priceBy 92 = .ok (.imul, 1) := by decide +kernel
theorem dX3_priceBy_93 : decode cX3_priceBy 93 = .ok (.iadd, 1) := by decide +kernel
theorem dX3_priceBy_94 : decode cX3_priceBy 94 = .ok (.goto 7, 3) := by decide +kernel
theorem dX3_priceBy_97 : decode cX3_priceBy 97 = .ok (.iconst 2, 1) := by decide +kernel
theorem dX3_priceBy_98 : decode cX3_priceBy 98 = .ok (.iload 5, 2) := by decide +kernel
theorem dX3_priceBy_100 : decode cX3_priceBy 100 = .ok (.imul, 1) := by decide +kernel
theorem dX3_priceBy_101 : decode cX3_priceBy 101 = .ok (.istore 6, 2) := by decide +kernel
theorem dX3_priceBy_103 : decode cX3_priceBy 103 = .ok (.iload 6, 2) := by decide +kernel
theorem dX3_priceBy_105 : decode cX3_priceBy 105 = .ok (.ldc 76, 2) := by decide +kernel
theorem dX3_priceBy_107 : decode cX3_priceBy 107 = .ok (.invokestatic 77, 3) := by decide +kernel
theorem dX3_priceBy_110 : decode cX3_priceBy 110 = .ok (.ireturn, 1) := by decide +kernel
theorem dX3_rowsMet_0 : decode cX3_rowsMet 0 = .ok (.iload_n 1, 1) := by decide +kernel
theorem dX3_rowsMet_1 : decode cX3_rowsMet 1 = .ok (.iconst 3, 1) := by decide +kernel
theorem dX3_rowsMet_2 : decode cX3_rowsMet 2 = .ok (.irem, 1) := by decide +kernel
theorem dX3_rowsMet_3 : decode cX3_rowsMet 3 = .ok (.iconst 1, 1) := by decide +kernel
theorem dX3_rowsMet_4 : decode cX3_rowsMet 4 = .ok (.if_icmp .eq 5, 3) := by decide +kernel
theorem dX3_rowsMet_7 : decode cX3_rowsMet 7 = .ok (.iload_n 2, 1) := by decide +kernel
theorem dX3_rowsMet_8 : decode cX3_rowsMet 8 = .ok (.ireturn, 1) := by decide +kernel
theorem dX3_rowsMet_9 : decode cX3_rowsMet 9 = .ok (.aload_n 0, 1) := by decide +kernel
theorem dX3_rowsMet_10 : decode cX3_rowsMet 10 = .ok (.iload_n 1, 1) := by decide +kernel
theorem dX3_rowsMet_11 : decode cX3_rowsMet 11 = .ok (.invokevirtual 64, 3) := by decide +kernel
theorem dX3_rowsMet_14 : decode cX3_rowsMet 14 = .ok (.astore_n 3, 1) := by decide +kernel
theorem dX3_rowsMet_15 : decode cX3_rowsMet 15 = .ok (.aload_n 3, 1) := by decide +kernel
theorem dX3_rowsMet_16 : decode cX3_rowsMet 16 = .ok (.getfield 61, 3) := by decide +kernel
theorem dX3_rowsMet_19 : decode cX3_rowsMet 19 = .ok (.iload_n 2, 1) := by decide +kernel
theorem dX3_rowsMet_20 : decode cX3_rowsMet 20 = .ok (.imul, 1) := by decide +kernel
theorem dX3_rowsMet_21 : decode cX3_rowsMet 21 = .ok (.aload_n 3, 1) := by decide +kernel
theorem dX3_rowsMet_22 : decode cX3_rowsMet 22 = .ok (.getfield 58, 3) := by decide +kernel
theorem dX3_rowsMet_25 : decode cX3_rowsMet 25 = .ok (.iadd, 1) := by decide +kernel
theorem dX3_rowsMet_26 : decode cX3_rowsMet 26 = .ok (.iconst 1, 1) := by decide +kernel
theorem dX3_rowsMet_27 : decode cX3_rowsMet 27 = .ok (.isub, 1) := by decide +kernel
theorem dX3_rowsMet_28 : decode cX3_rowsMet 28 = .ok (.aload_n 3, 1) := by decide +kernel
theorem dX3_rowsMet_29 : decode cX3_rowsMet 29 = .ok (.getfield 58, 3) := by decide +kernel
theorem dX3_rowsMet_32 : decode cX3_rowsMet 32 = .ok (.invokestatic 82, 3) := by decide +kernel
theorem dX3_rowsMet_35 : decode cX3_rowsMet 35 = .ok (.istore 4, 2) := by decide +kernel
theorem dX3_rowsMet_37 : decode cX3_rowsMet 37 = .ok (.iload 4, 2) := by decide +kernel
theorem dX3_rowsMet_39 : decode cX3_rowsMet 39 = .ok (.aload_n 3, 1) := by decide +kernel
theorem dX3_rowsMet_40 : decode cX3_rowsMet 40 = .ok (.getfield 61, 3) := by decide +kernel
theorem dX3_rowsMet_43 : decode cX3_rowsMet 43 = .ok (.invokestatic 77, 3) := by decide +kernel
theorem dX3_rowsMet_46 : decode cX3_rowsMet 46 = .ok (.ireturn, 1) := by decide +kernel
theorem dX3_cheapestWay_0 : decode cX3_cheapestWay 0 = .ok (.iconst 0, 1) := by decide +kernel
theorem dX3_cheapestWay_1 : decode cX3_cheapestWay 1 = .ok (.istore_n 3, 1) := by decide +kernel
theorem dX3_cheapestWay_2 : decode cX3_cheapestWay 2 = .ok (.aload_n 0, 1) := by decide +kernel
theorem dX3_cheapestWay_3 : decode cX3_cheapestWay 3 = .ok (.iload_n 1, 1) := by decide +kernel
theorem dX3_cheapestWay_4 : decode cX3_cheapestWay 4 = .ok (.iconst 0, 1) := by decide +kernel
theorem dX3_cheapestWay_5 : decode cX3_cheapestWay 5 = .ok (.iload_n 2, 1) := by decide +kernel
theorem dX3_cheapestWay_6 : decode cX3_cheapestWay 6 = .ok (.invokevirtual 85, 3) := by decide +kernel
theorem dX3_cheapestWay_9 : decode cX3_cheapestWay 9 = .ok (.istore 4, 2) := by decide +kernel
theorem dX3_cheapestWay_11 : decode cX3_cheapestWay 11 = .ok (.iconst 1, 1) := by decide +kernel
theorem dX3_cheapestWay_12 : decode cX3_cheapestWay 12 = .ok (.istore 5, 2) := by decide +kernel
theorem dX3_cheapestWay_14 : decode cX3_cheapestWay 14 = .ok (.iload 5, 2) := by decide +kernel
theorem dX3_cheapestWay_16 : decode cX3_cheapestWay 16 = .ok (.iconst 3, 1) := by decide +kernel
theorem dX3_cheapestWay_17 : decode cX3_cheapestWay 17 = .ok (.if_icmp .ge 33, 3) := by decide +kernel
theorem dX3_cheapestWay_20 : decode cX3_cheapestWay 20 = .ok (.aload_n 0, 1) := by decide +kernel
theorem dX3_cheapestWay_21 : decode cX3_cheapestWay 21 = .ok (.iload_n 1, 1) := by decide +kernel
theorem dX3_cheapestWay_22 : decode cX3_cheapestWay 22 = .ok (.iload 5, 2) := by decide +kernel
theorem dX3_cheapestWay_24 : decode cX3_cheapestWay 24 = .ok (.iload_n 2, 1) := by decide +kernel
theorem dX3_cheapestWay_25 : decode cX3_cheapestWay 25 = .ok (.invokevirtual 85, 3) := by decide +kernel
theorem dX3_cheapestWay_28 : decode cX3_cheapestWay 28 = .ok (.istore 6, 2) := by decide +kernel
theorem dX3_cheapestWay_30 : decode cX3_cheapestWay 30 = .ok (.iload 6, 2) := by decide +kernel
theorem dX3_cheapestWay_32 : decode cX3_cheapestWay 32 = .ok (.iload 4, 2) := by decide +kernel
theorem dX3_cheapestWay_34 : decode cX3_cheapestWay 34 = .ok (.if_icmp .ge 10, 3) := by decide +kernel
theorem dX3_cheapestWay_37 : decode cX3_cheapestWay 37 = .ok (.iload 5, 2) := by decide +kernel
theorem dX3_cheapestWay_39 : decode cX3_cheapestWay 39 = .ok (.istore_n 3, 1) := by decide +kernel
theorem dX3_cheapestWay_40 : decode cX3_cheapestWay 40 = .ok (.iload 6, 2) := by decide +kernel
theorem dX3_cheapestWay_42 : decode cX3_cheapestWay 42 = .ok (.istore 4, 2) := by decide +kernel
theorem dX3_cheapestWay_44 : decode cX3_cheapestWay 44 = .ok (.iinc 5 1, 3) := by decide +kernel
theorem dX3_cheapestWay_47 : decode cX3_cheapestWay 47 = .ok (.goto (-33), 3) := by decide +kernel
theorem dX3_cheapestWay_50 : decode cX3_cheapestWay 50 = .ok (.iload_n 3, 1) := by decide +kernel
theorem dX3_cheapestWay_51 : decode cX3_cheapestWay 51 = .ok (.ireturn, 1) := by decide +kernel
theorem dX3_rowsChangedTooMuch_0 : decode cX3_rowsChangedTooMuch 0 = .ok (.aload_n 0, 1) := by decide +kernel
theorem dX3_rowsChangedTooMuch_1 : decode cX3_rowsChangedTooMuch 1 = .ok (.getfield 19, 3) := by decide +kernel
theorem dX3_rowsChangedTooMuch_4 : decode cX3_rowsChangedTooMuch 4 = .ok (.iload_n 1, 1) := by decide +kernel
theorem dX3_rowsChangedTooMuch_5 : decode cX3_rowsChangedTooMuch 5 = .ok (.aaload, 1) := by decide +kernel
theorem dX3_rowsChangedTooMuch_6 : decode cX3_rowsChangedTooMuch 6 = .ok (.getfield 89, 3) := by decide +kernel
theorem dX3_rowsChangedTooMuch_9 : decode cX3_rowsChangedTooMuch 9 = .ok (.istore_n 2, 1) := by decide +kernel
theorem dX3_rowsChangedTooMuch_10 : decode cX3_rowsChangedTooMuch 10 = .ok (.aload_n 0, 1) := by decide +kernel
theorem dX3_rowsChangedTooMuch_11 : decode cX3_rowsChangedTooMuch 11 = .ok (.iload_n 1, 1) := by decide +kernel
theorem dX3_rowsChangedTooMuch_12 : decode cX3_rowsChangedTooMuch 12 = .ok (.invokevirtual 64, 3) := by decide +kernel
theorem dX3_rowsChangedTooMuch_15 : decode cX3_rowsChangedTooMuch 15 = .ok (.getfield 61, 3) := by decide +kernel
theorem dX3_rowsChangedTooMuch_18 : decode cX3_rowsChangedTooMuch 18 = .ok (.iload_n 2, 1) := by decide +kernel
theorem dX3_rowsChangedTooMuch_19 : decode cX3_rowsChangedTooMuch 19 = .ok (.isub, 1) := by decide +kernel
theorem dX3_rowsChangedTooMuch_20 : decode cX3_rowsChangedTooMuch 20 = .ok (.invokestatic 90, 3) := by decide +kernel
theorem dX3_rowsChangedTooMuch_23 : decode cX3_rowsChangedTooMuch 23 = .ok (.iload_n 2, 1) := by decide +kernel
theorem dX3_rowsChangedTooMuch_24 : decode cX3_rowsChangedTooMuch 24 = .ok (.iconst 2, 1) := by decide +kernel
theorem dX3_rowsChangedTooMuch_25 : decode cX3_rowsChangedTooMuch 25 = .ok (.idiv, 1) := by decide +kernel
theorem dX3_rowsChangedTooMuch_26 : decode cX3_rowsChangedTooMuch 26 = .ok (.if_icmp .le 7, 3) := by decide +kernel
theorem dX3_rowsChangedTooMuch_29 : decode cX3_rowsChangedTooMuch 29 = .ok (.iconst 1, 1) := by decide +kernel
theorem dX3_rowsChangedTooMuch_30 : decode cX3_rowsChangedTooMuch 30 = .ok (.goto 4, 3) := by decide +kernel
theorem dX3_rowsChangedTooMuch_33 : decode cX3_rowsChangedTooMuch 33 = .ok (.iconst 0, 1) := by decide +kernel
theorem dX3_rowsChangedTooMuch_34 : decode cX3_rowsChangedTooMuch 34 = .ok (.ireturn, 1) := by decide +kernel
theorem dX3_isTooOld_0 : decode cX3_isTooOld 0 = .ok (.aload_n 0, 1) := by decide +kernel
theorem dX3_isTooOld_1 : decode cX3_isTooOld 1 = .ok (.getfield 36, 3) := by decide +kernel
theorem dX3_isTooOld_4 : decode cX3_isTooOld 4 = .ok (.aload_n 0, 1) := by decide +kernel
theorem dX3_isTooOld_5 : decode cX3_isTooOld 5 = .ok (.getfield 19, 3) := by decide +kernel
theorem dX3_isTooOld_8 : decode cX3_isTooOld 8 = .ok (.iload_n 1, 1) := by decide +kernel
theorem dX3_isTooOld_9 : decode cX3_isTooOld 9 = .ok (.aaload, 1) := by decide +kernel
theorem dX3_isTooOld_10 : decode cX3_isTooOld 10 = .ok (.getfield 93, 3) := by decide +kernel
theorem dX3_isTooOld_13 : decode cX3_isTooOld 13 = .ok (.isub, 1) := by decide +kernel
theorem dX3_isTooOld_14 : decode cX3_isTooOld 14 = .ok (.aload_n 0, 1) := by decide +kernel
theorem dX3_isTooOld_15 : decode cX3_isTooOld 15 = .ok (.getfield 23, 3) := by decide +kernel
theorem dX3_isTooOld_18 : decode cX3_isTooOld 18 = .ok (.iconst 2, 1) := by decide +kernel
theorem dX3_isTooOld_19 : decode cX3_isTooOld 19 = .ok (.iaload, 1) := by decide +kernel
theorem dX3_isTooOld_20 : decode cX3_isTooOld 20 = .ok (.if_icmp .le 7, 3) := by decide +kernel
theorem dX3_isTooOld_23 : decode cX3_isTooOld 23 = .ok (.iconst 1, 1) := by decide +kernel
theorem dX3_isTooOld_24 : decode cX3_isTooOld 24 = .ok (.goto 4, 3) := by decide +kernel
theorem dX3_isTooOld_27 : decode cX3_isTooOld 27 = .ok (.iconst 0, 1) := by decide +kernel
theorem dX3_isTooOld_28 : decode cX3_isTooOld 28 = .ok (.ireturn, 1) := by decide +kernel
theorem dX3_isStale_0 : decode cX3_isStale 0 = .ok (.aload_n 0, 1) := by decide +kernel
theorem dX3_isStale_1 : decode cX3_isStale 1 = .ok (.iload_n 1, 1) := by decide +kernel
theorem dX3_isStale_2 : decode cX3_isStale 2 = .ok (.invokevirtual 96, 3) := by decide +kernel
theorem dX3_isStale_5 : decode cX3_isStale 5 = .ok (.ifCond .ne 11, 3) := by decide +kernel
theorem dX3_isStale_8 : decode cX3_isStale 8 = .ok (.aload_n 0, 1) := by decide +kernel
theorem dX3_isStale_9 : decode cX3_isStale 9 = .ok (.iload_n 1, 1) := by decide +kernel
theorem dX3_isStale_10 : decode cX3_isStale 10 = .ok (.invokevirtual 100, 3) := by decide +kernel
theorem dX3_isStale_13 : decode cX3_isStale 13 = .ok (.ifCond .eq 7, 3) := by decide +kernel
theorem dX3_isStale_16 : decode cX3_isStale 16 = .ok (.iconst 1, 1) := by decide +kernel
theorem dX3_isStale_17 : decode cX3_isStale 17 = .ok (.goto 4, 3) := by decide +kernel
theorem dX3_isStale_20 : decode cX3_isStale 20 = .ok (.iconst 0, 1) := by decide +kernel
theorem dX3_isStale_21 : decode cX3_isStale 21 = .ok (.ireturn, 1) := by decide +kernel
theorem dX3_isTooDear_0 : decode cX3_isTooDear 0 = .ok (.iload_n 2, 1) := by decide +kernel
theorem dX3_isTooDear_1 : decode cX3_isTooDear 1 = .ok (.aload_n 0, 1) := by decide +kernel
theorem dX3_isTooDear_2 : decode cX3_isTooDear 2 = .ok (.getfield 23, 3) := by decide +kernel
theorem dX3_isTooDear_5 : decode cX3_isTooDear 5 = .ok (.iconst 4, 1) := by decide +kernel
theorem dX3_isTooDear_6 : decode cX3_isTooDear 6 = .ok (.iaload, 1) := by decide +kernel
theorem dX3_isTooDear_7 : decode cX3_isTooDear 7 = .ok (.aload_n 0, 1) := by decide +kernel
theorem dX3_isTooDear_8 : decode cX3_isTooDear 8 = .ok (.getfield 19, 3) := by decide +kernel
theorem dX3_isTooDear_11 : decode cX3_isTooDear 11 = .ok (.iload_n 1, 1) := by decide +kernel
theorem dX3_isTooDear_12 : decode cX3_isTooDear 12 = .ok (.aaload, 1) := by decide +kernel
theorem dX3_isTooDear_13 : decode cX3_isTooDear 13 = .ok (.getfield 103, 3) := by decide +kernel
theorem dX3_isTooDear_16 : decode cX3_isTooDear 16 = .ok (.imul, 1) := by decide +kernel
theorem dX3_isTooDear_17 : decode cX3_isTooDear 17 = .ok (.if_icmp .le 7, 3) := by decide +kernel
theorem dX3_isTooDear_20 : decode cX3_isTooDear 20 = .ok (.iconst 1, 1) := by decide +kernel
theorem dX3_isTooDear_21 : decode cX3_isTooDear 21 = .ok (.goto 4, 3) := by decide +kernel
theorem dX3_isTooDear_24 : decode cX3_isTooDear 24 = .ok (.iconst 0, 1) := by decide +kernel
theorem dX3_isTooDear_25 : decode cX3_isTooDear 25 = .ok (.ireturn, 1) := by decide +kernel
theorem dX3_whyNotUsed_0 : decode cX3_whyNotUsed 0 = .ok (.aload_n 0, 1) := by decide +kernel
theorem dX3_whyNotUsed_1 : decode cX3_whyNotUsed 1 = .ok (.getfield 19, 3) := by decide +kernel
theorem dX3_whyNotUsed_4 : decode cX3_whyNotUsed 4 = .ok (.iload_n 1, 1) := by decide +kernel
theorem dX3_whyNotUsed_5 : decode cX3_whyNotUsed 5 = .ok (.aaload, 1) := by decide +kernel
theorem dX3_whyNotUsed_6 : decode cX3_whyNotUsed 6 = .ok (.astore_n 3, 1) := by decide +kernel
theorem dX3_whyNotUsed_7 : decode cX3_whyNotUsed 7 = .ok (.aload_n 3, 1) := by decide +kernel
theorem dX3_whyNotUsed_8 : decode cX3_whyNotUsed 8 = .ok (.getfield 106, 3) := by decide +kernel
theorem dX3_whyNotUsed_11 : decode cX3_whyNotUsed 11 = .ok (.ifCond .ne 5, 3) := by decide +kernel
theorem dX3_whyNotUsed_14 : decode cX3_whyNotUsed 14 = .ok (.iconst 1, 1) := by decide +kernel
theorem dX3_whyNotUsed_15 : decode cX3_whyNotUsed 15 = .ok (.ireturn, 1) := by decide +kernel
theorem dX3_whyNotUsed_16 : decode cX3_whyNotUsed 16 = .ok (.iload_n 2, 1) := by decide +kernel
theorem dX3_whyNotUsed_17 : decode cX3_whyNotUsed 17 = .ok (.aload_n 3, 1) := by decide +kernel
theorem dX3_whyNotUsed_18 : decode cX3_whyNotUsed 18 = .ok (.getfield 110, 3) := by decide +kernel
theorem dX3_whyNotUsed_21 : decode cX3_whyNotUsed 21 = .ok (.if_icmp .ge 5, 3) := by decide +kernel
theorem dX3_whyNotUsed_24 : decode cX3_whyNotUsed 24 = .ok (.iconst 2, 1) := by decide +kernel
theorem dX3_whyNotUsed_25 : decode cX3_whyNotUsed 25 = .ok (.ireturn, 1) := by decide +kernel
theorem dX3_whyNotUsed_26 : decode cX3_whyNotUsed 26 = .ok (.iload_n 2, 1) := by decide +kernel
theorem dX3_whyNotUsed_27 : decode cX3_whyNotUsed 27 = .ok (.aload_n 3, 1) := by decide +kernel
theorem dX3_whyNotUsed_28 : decode cX3_whyNotUsed 28 = .ok (.getfield 113, 3) := by decide +kernel
theorem dX3_whyNotUsed_31 : decode cX3_whyNotUsed 31 = .ok (.if_icmp .le 5, 3) := by decide +kernel
theorem dX3_whyNotUsed_34 : decode cX3_whyNotUsed 34 = .ok (.iconst 3, 1) := by decide +kernel
theorem dX3_whyNotUsed_35 : decode cX3_whyNotUsed 35 = .ok (.ireturn, 1) := by decide +kernel
theorem dX3_whyNotUsed_36 : decode cX3_whyNotUsed 36 = .ok (.aload_n 0, 1) := by decide +kernel
theorem dX3_whyNotUsed_37 : decode cX3_whyNotUsed 37 = .ok (.iload_n 1, 1) := by decide +kernel
theorem dX3_whyNotUsed_38 : decode cX3_whyNotUsed 38 = .ok (.invokevirtual 96, 3) := by decide +kernel
theorem dX3_whyNotUsed_41 : decode cX3_whyNotUsed 41 = .ok (.ifCond .eq 5, 3) := by decide +kernel
theorem dX3_whyNotUsed_44 : decode cX3_whyNotUsed 44 = .ok (.iconst 4, 1) := by decide +kernel
theorem dX3_whyNotUsed_45 : decode cX3_whyNotUsed 45 = .ok (.ireturn, 1) := by decide +kernel
theorem dX3_whyNotUsed_46 : decode cX3_whyNotUsed 46 = .ok (.aload_n 0, 1) := by decide +kernel
theorem dX3_whyNotUsed_47 : decode cX3_whyNotUsed 47 = .ok (.iload_n 1, 1) := by decide +kernel
theorem dX3_whyNotUsed_48 : decode cX3_whyNotUsed 48 = .ok (.invokevirtual 100, 3) := by decide +kernel
theorem dX3_whyNotUsed_51 : decode cX3_whyNotUsed 51 = .ok (.ifCond .eq 7, 3) := by decide +kernel
theorem dX3_whyNotUsed_54 : decode cX3_whyNotUsed 54 = .ok (.iconst 5, 1) := by decide +kernel
theorem dX3_whyNotUsed_55 : decode cX3_whyNotUsed 55 = .ok (.goto 4, 3) := by decide +kernel
theorem dX3_whyNotUsed_58 : decode cX3_whyNotUsed 58 = .ok (.iconst 0, 1) := by decide +kernel
theorem dX3_whyNotUsed_59 : decode cX3_whyNotUsed 59 = .ok (.ireturn, 1) := by decide +kernel
theorem dX3_answer_0 : decode cX3_answer 0 = .ok (.aload_n 0, 1) := by decide +kernel
theorem dX3_answer_1 : decode cX3_answer 1 = .ok (.iload_n 1, 1) := by decide +kernel
theorem dX3_answer_2 : decode cX3_answer 2 = .ok (.iload_n 2, 1) := by decide +kernel
theorem dX3_answer_3 : decode cX3_answer 3 = .ok (.invokevirtual 116, 3) := by decide +kernel
theorem dX3_answer_6 : decode cX3_answer 6 = .ok (.ifCond .ne 7, 3) := by decide +kernel
theorem dX3_answer_9 : decode cX3_answer 9 = .ok (.iconst 1, 1) := by decide +kernel
theorem dX3_answer_10 : decode cX3_answer 10 = .ok (.goto 4, 3) := by decide +kernel
theorem dX3_answer_13 : decode cX3_answer 13 = .ok (.iconst 0, 1) := by decide +kernel
theorem dX3_answer_14 : decode cX3_answer 14 = .ok (.istore_n 3, 1) := by decide +kernel
theorem dX3_answer_15 : decode cX3_answer 15 = .ok (.aload_n 0, 1) := by decide +kernel
theorem dX3_answer_16 : decode cX3_answer 16 = .ok (.dup, 1) := by decide +kernel
theorem dX3_answer_17 : decode cX3_answer 17 = .ok (.getfield 36, 3) := by decide +kernel
theorem dX3_answer_20 : decode cX3_answer 20 = .ok (.iconst 1, 1) := by decide +kernel
theorem dX3_answer_21 : decode cX3_answer 21 = .ok (.iadd, 1) := by decide +kernel
theorem dX3_answer_22 : decode cX3_answer 22 = .ok (.putfield 36, 3) := by decide +kernel
theorem dX3_answer_25 : decode cX3_answer 25 = .ok (.iload_n 3, 1) := by decide +kernel
theorem dX3_answer_26 : decode cX3_answer 26 = .ok (.ifCond .eq 12, 3) := by decide +kernel
theorem dX3_answer_29 : decode cX3_answer 29 = .ok (.aload_n 0, 1) := by decide +kernel
theorem dX3_answer_30 : decode cX3_answer 30 = .ok (.iload_n 1, 1) := by decide +kernel
theorem dX3_answer_31 : decode cX3_answer 31 = .ok (.iload_n 2, 1) := by decide +kernel
theorem dX3_answer_32 : decode cX3_answer 32 = .ok (.invokevirtual 119, 3) := by decide +kernel
theorem dX3_answer_35 : decode cX3_answer 35 = .ok (.goto 9, 3) := by decide +kernel
theorem dX3_answer_38 : decode cX3_answer 38 = .ok (.aload_n 0, 1) := by decide +kernel
theorem dX3_answer_39 : decode cX3_answer 39 = .ok (.iload_n 1, 1) := by decide +kernel
theorem dX3_answer_40 : decode cX3_answer 40 = .ok (.iload_n 2, 1) := by decide +kernel
theorem dX3_answer_41 : decode cX3_answer 41 = .ok (.invokevirtual 122, 3) := by decide +kernel
theorem dX3_answer_44 : decode cX3_answer 44 = .ok (.istore 4, 2) := by decide +kernel
theorem dX3_answer_46 : decode cX3_answer 46 = .ok (.aload_n 0, 1) := by decide +kernel
theorem dX3_answer_47 : decode cX3_answer 47 = .ok (.dup, 1) := by decide +kernel
theorem dX3_answer_48 : decode cX3_answer 48 = .ok (.getfield 46, 3) := by decide +kernel
theorem dX3_answer_51 : decode cX3_answer 51 = .ok (.iload 4, 2) := by decide +kernel
theorem dX3_answer_53 : decode cX3_answer 53 = .ok (.iadd, 1) := by decide +kernel
theorem dX3_answer_54 : decode cX3_answer 54 = .ok (.putfield 46, 3) := by decide +kernel
theorem dX3_answer_57 : decode cX3_answer 57 = .ok (.aload_n 0, 1) := by decide +kernel
theorem dX3_answer_58 : decode cX3_answer 58 = .ok (.iload_n 1, 1) := by decide +kernel
theorem dX3_answer_59 : decode cX3_answer 59 = .ok (.invokevirtual 64, 3) := by decide +kernel
theorem dX3_answer_62 : decode cX3_answer 62 = .ok (.astore 5, 2) := by decide +kernel
theorem dX3_answer_64 : decode cX3_answer 64 = .ok (.aload 5, 2) := by decide +kernel
theorem dX3_answer_66 : decode cX3_answer 66 = .ok (.dup, 1) := by decide +kernel
theorem dX3_answer_67 : decode cX3_answer 67 = .ok (.getfield 125, 3) := by decide +kernel
theorem dX3_answer_70 : decode cX3_answer 70 = .ok (.iconst 1, 1) := by decide +kernel
theorem dX3_answer_71 : decode cX3_answer 71 = .ok (.iadd, 1) := by decide +kernel
theorem dX3_answer_72 : decode cX3_answer 72 = .ok (.putfield 125, 3) := by decide +kernel
theorem dX3_answer_75 : decode cX3_answer 75 = .ok (.aload 5, 2) := by decide +kernel
theorem dX3_answer_77 : decode cX3_answer 77 = .ok (.dup, 1) := by decide +kernel
theorem dX3_answer_78 : decode cX3_answer 78 = .ok (.getfield 126, 3) := by decide +kernel
theorem dX3_answer_81 : decode cX3_answer 81 = .ok (.iload 4, 2) := by decide +kernel
theorem dX3_answer_83 : decode cX3_answer 83 = .ok (.iadd, 1) := by decide +kernel
theorem dX3_answer_84 : decode cX3_answer 84 = .ok (.putfield 126, 3) := by decide +kernel
theorem dX3_answer_87 : decode cX3_answer 87 = .ok (.iload 4, 2) := by decide +kernel
theorem dX3_answer_89 : decode cX3_answer 89 = .ok (.ireturn, 1) := by decide +kernel
theorem dX3_answerByPlan_0 : decode cX3_answerByPlan 0 = .ok (.aload_n 0, 1) := by decide +kernel
theorem dX3_answerByPlan_1 : decode cX3_answerByPlan 1 = .ok (.getfield 19, 3) := by decide +kernel
theorem dX3_answerByPlan_4 : decode cX3_answerByPlan 4 = .ok (.iload_n 1, 1) := by decide +kernel
theorem dX3_answerByPlan_5 : decode cX3_answerByPlan 5 = .ok (.aaload, 1) := by decide +kernel
theorem dX3_answerByPlan_6 : decode cX3_answerByPlan 6 = .ok (.astore_n 3, 1) := by decide +kernel
theorem dX3_answerByPlan_7 : decode cX3_answerByPlan 7 = .ok (.aload_n 0, 1) := by decide +kernel
theorem dX3_answerByPlan_8 : decode cX3_answerByPlan 8 = .ok (.iload_n 1, 1) := by decide +kernel
theorem dX3_answerByPlan_9 : decode cX3_answerByPlan 9 = .ok (.aload_n 3, 1) := by decide +kernel
theorem dX3_answerByPlan_10 : decode cX3_answerByPlan 10 = .ok (.getfield 127, 3) := by decide +kernel
theorem dX3_answerByPlan_13 : decode cX3_answerByPlan 13 = .ok (.iload_n 2, 1) := by decide +kernel
theorem dX3_answerByPlan_14 : decode cX3_answerByPlan 14 = .ok (.invokevirtual 85, 3) := by decide +kernel
theorem dX3_answerByPlan_17 : decode cX3_answerByPlan 17 = .ok (.istore 4, 2) := by decide +kernel
theorem dX3_answerByPlan_19 : decode cX3_answerByPlan 19 = .ok (.aload_n 0, 1) := by decide +kernel
theorem dX3_answerByPlan_20 : decode cX3_answerByPlan 20 = .ok (.dup, 1) := by decide +kernel
theorem dX3_answerByPlan_21 : decode cX3_answerByPlan 21 = .ok (.getfield 40, 3) := by decide +kernel
theorem dX3_answerByPlan_24 : decode cX3_answerByPlan 24 = .ok (.iconst 1, 1) := by decide +kernel
theorem dX3_answerByPlan_25 : decode cX3_answerByPlan 25 = .ok (.iadd, 1) := by decide +kernel
theorem dX3_answerByPlan_26 : decode cX3_answerByPlan 26 = .ok (.putfield 40, 3) := by decide +kernel
theorem dX3_answerByPlan_29 : decode cX3_answerByPlan 29 = .ok (.aload_n 3, 1) := by decide +kernel
theorem dX3_answerByPlan_30 : decode cX3_answerByPlan 30 = .ok (.dup, 1) := by decide +kernel
theorem dX3_answerByPlan_31 : decode cX3_answerByPlan 31 = .ok (.getfield 130, 3) := by decide +kernel
theorem dX3_answerByPlan_34 : decode cX3_answerByPlan 34 = .ok (.iconst 1, 1) := by decide +kernel
theorem dX3_answerByPlan_35 : decode cX3_answerByPlan 35 = .ok (.iadd, 1) := by decide +kernel
theorem dX3_answerByPlan_36 : decode cX3_answerByPlan 36 = .ok (.putfield 130, 3) := by decide +kernel
theorem dX3_answerByPlan_39 : decode cX3_answerByPlan 39 = .ok (.aload_n 3, 1) := by decide +kernel
theorem dX3_answerByPlan_40 : decode cX3_answerByPlan 40 = .ok (.aload_n 0, 1) := by decide +kernel
theorem dX3_answerByPlan_41 : decode cX3_answerByPlan 41 = .ok (.getfield 36, 3) := by decide +kernel
theorem dX3_answerByPlan_44 : decode cX3_answerByPlan 44 = .ok (.putfield 133, 3) := by decide +kernel
theorem dX3_answerByPlan_47 : decode cX3_answerByPlan 47 = .ok (.aload_n 0, 1) := by decide +kernel
theorem dX3_answerByPlan_48 : decode cX3_answerByPlan 48 = .ok (.iload_n 1, 1) := by decide +kernel
theorem dX3_answerByPlan_49 : decode cX3_answerByPlan 49 = .ok (.iload 4, 2) := by decide +kernel
theorem dX3_answerByPlan_51 : decode cX3_answerByPlan 51 = .ok (.invokevirtual 136, 3) := by decide +kernel
theorem dX3_answerByPlan_54 : decode cX3_answerByPlan 54 = .ok (.ifCond .eq 18, 3) := by decide +kernel
theorem dX3_answerByPlan_57 : decode cX3_answerByPlan 57 = .ok (.aload_n 3, 1) := by decide +kernel
theorem dX3_answerByPlan_58 : decode cX3_answerByPlan 58 = .ok (.iconst 0, 1) := by decide +kernel
theorem dX3_answerByPlan_59 : decode cX3_answerByPlan 59 = .ok (.putfield 106, 3) := by decide +kernel
theorem dX3_answerByPlan_62 : decode cX3_answerByPlan 62 = .ok (.aload_n 0, 1) := by decide +kernel
theorem dX3_answerByPlan_63 : decode cX3_answerByPlan 63 = .ok (.dup, 1) := by decide +kernel
theorem dX3_answerByPlan_64 : decode cX3_answerByPlan 64 = .ok (.getfield 52, 3) := by decide +kernel
theorem dX3_answerByPlan_67 : decode cX3_answerByPlan 67 = .ok (.iconst 1, 1) := by decide +kernel
theorem dX3_answerByPlan_68 : decode cX3_answerByPlan 68 = .ok (.iadd, 1) := by decide +kernel
theorem dX3_answerByPlan_69 : decode cX3_answerByPlan 69 = .ok (.putfield 52, 3) := by decide +kernel
theorem dX3_answerByPlan_72 : decode cX3_answerByPlan 72 = .ok (.iload 4, 2) := by decide +kernel
theorem dX3_answerByPlan_74 : decode cX3_answerByPlan 74 = .ok (.ireturn, 1) := by decide +kernel
theorem dX3_answerByLooking_0 : decode cX3_answerByLooking 0 = .ok (.aload_n 0, 1) := by decide +kernel
theorem dX3_answerByLooking_1 : decode cX3_answerByLooking 1 = .ok (.iload_n 1, 1) := by decide +kernel
theorem dX3_answerByLooking_2 : decode cX3_answerByLooking 2 = .ok (.iload_n 2, 1) := by decide +kernel
theorem dX3_answerByLooking_3 : decode cX3_answerByLooking 3 = .ok (.invokevirtual 140, 3) := by decide +kernel
theorem dX3_answerByLooking_6 : decode cX3_answerByLooking 6 = .ok (.istore_n 3, 1) := by decide +kernel
theorem dX3_answerByLooking_7 : decode cX3_answerByLooking 7 = .ok (.aload_n 0, 1) := by decide +kernel
theorem dX3_answerByLooking_8 : decode cX3_answerByLooking 8 = .ok (.dup, 1) := by decide +kernel
theorem dX3_answerByLooking_9 : decode cX3_answerByLooking 9 = .ok (.getfield 43, 3) := by decide +kernel
theorem dX3_answerByLooking_12 : decode cX3_answerByLooking 12 = .ok (.iconst 1, 1) := by decide +kernel
theorem dX3_answerByLooking_13 : decode cX3_answerByLooking 13 = .ok (.iadd, 1) := by decide +kernel
theorem dX3_answerByLooking_14 : decode cX3_answerByLooking 14 = .ok (.putfield 43, 3) := by decide +kernel
theorem dX3_answerByLooking_17 : decode cX3_answerByLooking 17 = .ok (.aload_n 0, 1) := by decide +kernel
theorem dX3_answerByLooking_18 : decode cX3_answerByLooking 18 = .ok (.dup, 1) := by decide +kernel
theorem dX3_answerByLooking_19 : decode cX3_answerByLooking 19 = .ok (.getfield 49, 3) := by decide +kernel
theorem dX3_answerByLooking_22 : decode cX3_answerByLooking 22 = .ok (.aload_n 0, 1) := by decide +kernel
theorem dX3_answerByLooking_23 : decode cX3_answerByLooking 23 = .ok (.getfield 23, 3) := by decide +kernel
theorem dX3_answerByLooking_26 : decode cX3_answerByLooking 26 = .ok (.iconst 0, 1) := by decide +kernel
theorem dX3_answerByLooking_27 : decode cX3_answerByLooking 27 = .ok (.iaload, 1) := by decide +kernel
theorem dX3_answerByLooking_28 : decode cX3_answerByLooking 28 = .ok (.iadd, 1) := by decide +kernel
theorem dX3_answerByLooking_29 : decode cX3_answerByLooking 29 = .ok (.putfield 49, 3) := by decide +kernel
theorem dX3_answerByLooking_32 : decode cX3_answerByLooking 32 = .ok (.aload_n 0, 1) := by decide +kernel
theorem dX3_answerByLooking_33 : decode cX3_answerByLooking 33 = .ok (.iload_n 1, 1) := by decide +kernel
theorem dX3_answerByLooking_34 : decode cX3_answerByLooking 34 = .ok (.invokevirtual 143, 3) := by decide +kernel
theorem dX3_answerByLooking_37 : decode cX3_answerByLooking 37 = .ok (.aload_n 0, 1) := by decide +kernel
theorem dX3_answerByLooking_38 : decode cX3_answerByLooking 38 = .ok (.iload_n 1, 1) := by decide +kernel
theorem dX3_answerByLooking_39 : decode cX3_answerByLooking 39 = .ok (.invokevirtual 147, 3) := by decide +kernel
theorem dX3_answerByLooking_42 : decode cX3_answerByLooking 42 = .ok (.ifCond .eq 28, 3) := by decide +kernel
theorem dX3_answerByLooking_45 : decode cX3_answerByLooking 45 = .ok (.aload_n 0, 1) := by decide +kernel
theorem dX3_answerByLooking_46 : decode cX3_answerByLooking 46 = .ok (.getfield 23, 3) := by decide +kernel
theorem dX3_answerByLooking_49 : decode cX3_answerByLooking 49 = .ok (.iconst 1, 1) := by decide +kernel
theorem dX3_answerByLooking_50 : decode cX3_answerByLooking 50 = .ok (.iaload, 1) := by decide +kernel
theorem dX3_answerByLooking_51 : decode cX3_answerByLooking 51 = .ok (.istore 4, 2) := by decide +kernel
theorem dX3_answerByLooking_53 : decode cX3_answerByLooking 53 = .ok (.aload_n 0, 1) := by decide +kernel
theorem dX3_answerByLooking_54 : decode cX3_answerByLooking 54 = .ok (.iload_n 1, 1) := by decide +kernel
theorem dX3_answerByLooking_55 : decode cX3_answerByLooking 55 = .ok (.iload_n 3, 1) := by decide +kernel
theorem dX3_answerByLooking_56 : decode cX3_answerByLooking 56 = .ok (.iload_n 2, 1) := by decide +kernel
theorem dX3_answerByLooking_57 : decode cX3_answerByLooking 57 = .ok (.iload_n 2, 1) := by decide +kernel
theorem dX3_answerByLooking_58 : decode cX3_answerByLooking 58 = .ok (.iload 4, 2) := by decide +kernel
theorem dX3_answerByLooking_60 : decode cX3_answerByLooking 60 = .ok (.invokestatic 82, 3) := by decide +kernel
theorem dX3_answerByLooking_63 : decode cX3_answerByLooking 63 = .ok (.iload_n 2, 1) := by decide +kernel
theorem dX3_answerByLooking_64 : decode cX3_answerByLooking 64 = .ok (.iload 4, 2) := by decide +kernel
theorem dX3_answerByLooking_66 : decode cX3_answerByLooking 66 = .ok (.imul, 1) := by decide +kernel
theorem dX3_answerByLooking_67 : decode cX3_answerByLooking 67 = .ok (.invokevirtual 150, 3) := by decide +kernel
theorem dX3_answerByLooking_70 : decode cX3_answerByLooking 70 = .ok (.aload_n 0, 1) := by decide +kernel
theorem dX3_answerByLooking_71 : decode cX3_answerByLooking 71 = .ok (.iload_n 1, 1) := by decide +kernel
theorem dX3_answerByLooking_72 : decode cX3_answerByLooking 72 = .ok (.iload_n 3, 1) := by decide +kernel
theorem dX3_answerByLooking_73 : decode cX3_answerByLooking 73 = .ok (.iload_n 2, 1) := by decide +kernel
theorem dX3_answerByLooking_74 : decode cX3_answerByLooking 74 = .ok (.invokevirtual 85, 3) := by decide +kernel
theorem dX3_answerByLooking_77 : decode cX3_answerByLooking 77 = .ok (.aload_n 0, 1) := by decide +kernel
theorem dX3_answerByLooking_78 : decode cX3_answerByLooking 78 = .ok (.getfield 23, 3) := by decide +kernel
theorem dX3_answerByLooking_81 : decode cX3_answerByLooking 81 = .ok (.iconst 0, 1) := by decide +kernel
theorem dX3_answerByLooking_82 : decode cX3_answerByLooking 82 = .ok (.iaload, 1) := by decide +kernel
theorem dX3_answerByLooking_83 : decode cX3_answerByLooking 83 = .ok (.iadd, 1) := by decide +kernel
theorem dX3_answerByLooking_84 : decode cX3_answerByLooking 84 = .ok (.ireturn, 1) := by decide +kernel
theorem dX3_place_0 : decode cX3_place 0 = .ok (.aload_n 0, 1) := by decide +kernel
theorem dX3_place_1 : decode cX3_place 1 = .ok (.getfield 19, 3) := by decide +kernel
theorem dX3_place_4 : decode cX3_place 4 = .ok (.iload_n 1, 1) := by decide +kernel
theorem dX3_place_5 : decode cX3_place 5 = .ok (.aaload, 1) := by decide +kernel
theorem dX3_place_6 : decode cX3_place 6 = .ok (.astore 6, 2) := by decide +kernel
theorem dX3_place_8 : decode cX3_place 8 = .ok (.aload 6, 2) := by decide +kernel
theorem dX3_place_10 : decode cX3_place 10 = .ok (.iconst 1, 1) := by decide +kernel
theorem dX3_place_11 : decode cX3_place 11 = .ok (.putfield 106, 3) := by decide +kernel
theorem dX3_place_14 : decode cX3_place 14 = .ok (.aload 6, 2) := by decide +kernel
theorem dX3_place_16 : decode cX3_place 16 = .ok (.iconst 0, 1) := by decide +kernel
theorem dX3_place_17 : decode cX3_place 17 = .ok (.putfield 154, 3) := by decide +kernel
theorem dX3_place_20 : decode cX3_place 20 = .ok (.aload 6, 2) := by decide +kernel
theorem dX3_place_22 : decode cX3_place 22 = .ok (.iload_n 2, 1) := by decide +kernel
theorem dX3_place_23 : decode cX3_place 23 = .ok (.putfield 127, 3) := by decide +kernel
theorem dX3_place_26 : decode cX3_place 26 = .ok (.aload 6, 2) := by decide +kernel
theorem dX3_place_28 : decode cX3_place 28 = .ok (.iload 4, 2) := by decide +kernel
theorem dX3_place_30 : decode cX3_place 30 = .ok (.putfield 110, 3) := by decide +kernel
theorem dX3_place_33 : decode cX3_place 33 = .ok (.aload 6, 2) := by decide +kernel
theorem dX3_place_35 : decode cX3_place 35 = .ok (.iload 5, 2) := by decide +kernel
theorem dX3_place_37 : decode cX3_place 37 = .ok (.putfield 113, 3) := by decide +kernel
theorem dX3_place_40 : decode cX3_place 40 = .ok (.aload 6, 2) := by decide +kernel
theorem dX3_place_42 : decode cX3_place 42 = .ok (.iload_n 3, 1) := by decide +kernel
theorem dX3_place_43 : decode cX3_place 43 = .ok (.putfield 157, 3) := by decide +kernel
theorem dX3_place_46 : decode cX3_place 46 = .ok (.aload 6, 2) := by decide +kernel
theorem dX3_place_48 : decode cX3_place 48 = .ok (.aload_n 0, 1) := by decide +kernel
theorem dX3_place_49 : decode cX3_place 49 = .ok (.iload_n 1, 1) := by decide +kernel
theorem dX3_place_50 : decode cX3_place 50 = .ok (.iload_n 2, 1) := by decide +kernel
theorem dX3_place_51 : decode cX3_place 51 = .ok (.iload_n 3, 1) := by decide +kernel
theorem dX3_place_52 : decode cX3_place 52 = .ok (.invokevirtual 85, 3) := by decide +kernel
theorem dX3_place_55 : decode cX3_place 55 = .ok (.putfield 103, 3) := by decide +kernel
theorem dX3_place_58 : decode cX3_place 58 = .ok (.aload 6, 2) := by decide +kernel
theorem dX3_place_60 : decode cX3_place 60 = .ok (.aload_n 0, 1) := by decide +kernel
theorem dX3_place_61 : decode cX3_place 61 = .ok (.iload_n 1, 1) := by decide +kernel
theorem dX3_place_62 : decode cX3_place 62 = .ok (.invokevirtual 64, 3) := by decide +kernel
theorem dX3_place_65 : decode cX3_place 65 = .ok (.getfield 61, 3) := by decide +kernel
theorem dX3_place_68 : decode cX3_place 68 = .ok (.putfield 89, 3) := by decide +kernel
theorem dX3_place_71 : decode cX3_place 71 = .ok (.aload 6, 2) := by decide +kernel
theorem dX3_place_73 : decode cX3_place 73 = .ok (.iconst 0, 1) := by decide +kernel
theorem dX3_place_74 : decode cX3_place 74 = .ok (.putfield 130, 3) := by decide +kernel
theorem dX3_place_77 : decode cX3_place 77 = .ok (.aload 6, 2) := by decide +kernel
theorem dX3_place_79 : decode cX3_place 79 = .ok (.aload_n 0, 1) := by decide +kernel
theorem dX3_place_80 : decode cX3_place 80 = .ok (.getfield 36, 3) := by decide +kernel
theorem dX3_place_83 : decode cX3_place 83 = .ok (.putfield 93, 3) := by decide +kernel
theorem dX3_place_86 : decode cX3_place 86 = .ok (.aload 6, 2) := by decide +kernel
theorem dX3_place_88 : decode cX3_place 88 = .ok (.aload_n 0, 1) := by decide +kernel
theorem dX3_place_89 : decode cX3_place 89 = .ok (.getfield 36, 3) := by decide +kernel
theorem dX3_place_92 : decode cX3_place 92 = .ok (.putfield 133, 3) := by decide +kernel
theorem dX3_place_95 : decode cX3_place 95 = .ok (.return_, 1) := by decide +kernel
theorem dX3_couldKeep_0 : decode cX3_couldKeep 0 = .ok (.aload_n 0, 1) := by decide +kernel
theorem dX3_couldKeep_1 : decode cX3_couldKeep 1 = .ok (.getfield 19, 3) := by decide +kernel
theorem dX3_couldKeep_4 : decode cX3_couldKeep 4 = .ok (.iload_n 1, 1) := by decide +kernel
theorem dX3_couldKeep_5 : decode cX3_couldKeep 5 = .ok (.aaload, 1) := by decide +kernel
theorem dX3_couldKeep_6 : decode cX3_couldKeep 6 = .ok (.getfield 106, 3) := by decide +kernel
theorem dX3_couldKeep_9 : decode cX3_couldKeep 9 = .ok (.ifCond .ne 16, 3) := by decide +kernel
theorem dX3_couldKeep_12 : decode cX3_couldKeep 12 = .ok (.aload_n 0, 1) := by decide +kernel
theorem dX3_couldKeep_13 : decode cX3_couldKeep 13 = .ok (.invokevirtual 160, 3) := by decide +kernel
theorem dX3_couldKeep_16 : decode cX3_couldKeep 16 = .ok (.aload_n 0, 1) := by decide +kernel
theorem dX3_couldKeep_17 : decode cX3_couldKeep 17 = .ok (.getfield 23, 3) := by decide +kernel
theorem dX3_couldKeep_20 : decode cX3_couldKeep 20 = .ok (.iconst 3, 1) := by decide +kernel
theorem dX3_couldKeep_21 : decode cX3_couldKeep 21 = .ok (.iaload, 1) := by decide +kernel
theorem dX3_couldKeep_22 : decode cX3_couldKeep 22 = .ok (.if_icmp .ge 7, 3) := by decide +kernel
theorem dX3_couldKeep_25 : decode cX3_couldKeep 25 = .ok (.iconst 1, 1) := by decide +kernel
theorem dX3_couldKeep_26 : decode cX3_couldKeep 26 = .ok (.goto 4, 3) := by decide +kernel
theorem dX3_couldKeep_29 : decode cX3_couldKeep 29 = .ok (.iconst 0, 1) := by decide +kernel
theorem dX3_couldKeep_30 : decode cX3_couldKeep 30 = .ok (.ireturn, 1) := by decide +kernel
theorem dX3_lacksRoomFor_0 : decode cX3_lacksRoomFor 0 = .ok (.aload_n 0, 1) := by decide +kernel
theorem dX3_lacksRoomFor_1 : decode cX3_lacksRoomFor 1 = .ok (.getfield 19, 3) := by decide +kernel
theorem dX3_lacksRoomFor_4 : decode cX3_lacksRoomFor 4 = .ok (.iload_n 1, 1) := by decide +kernel
theorem dX3_lacksRoomFor_5 : decode cX3_lacksRoomFor 5 = .ok (.aaload, 1) := by decide +kernel
theorem dX3_lacksRoomFor_6 : decode cX3_lacksRoomFor 6 = .ok (.getfield 106, 3) := by decide +kernel
theorem dX3_lacksRoomFor_9 : decode cX3_lacksRoomFor 9 = .ok (.ifCond .ne 20, 3) := by decide +kernel
theorem dX3_lacksRoomFor_12 : decode cX3_lacksRoomFor 12 = .ok (.aload_n 0, 1) := by decide +kernel
theorem dX3_lacksRoomFor_13 : decode cX3_lacksRoomFor 13 = .ok (.invokevirtual 164, 3) := by decide +kernel
theorem dX3_lacksRoomFor_16 : decode cX3_lacksRoomFor 16 = .ok (.aload_n 0, 1) := by decide +kernel
theorem dX3_lacksRoomFor_17 : decode cX3_lacksRoomFor 17 = .ok (.getfield 23, 3) := by decide +kernel
theorem dX3_lacksRoomFor_20 : decode cX3_lacksRoomFor 20 = .ok (.iconst 3, 1) := by decide +kernel
theorem dX3_lacksRoomFor_21 : decode cX3_lacksRoomFor 21 = .ok (.iaload, 1) := by decide +kernel
theorem dX3_lacksRoomFor_22 : decode cX3_lacksRoomFor 22 = .ok (.if_icmp .lt 7, 3) := by decide +kernel
theorem dX3_lacksRoomFor_25 : decode cX3_lacksRoomFor 25 = .ok (.iconst 1, 1) := by decide +kernel
theorem dX3_lacksRoomFor_26 : decode cX3_lacksRoomFor 26 = .ok (.goto 4, 3) := by decide +kernel
theorem dX3_lacksRoomFor_29 : decode cX3_lacksRoomFor 29 = .ok (.iconst 0, 1) := by decide +kernel
theorem dX3_lacksRoomFor_30 : decode cX3_lacksRoomFor 30 = .ok (.ireturn, 1) := by decide +kernel
theorem dX3_firstCrowdedOutBy_0 : decode cX3_firstCrowdedOutBy 0 = .ok (.aload_n 0, 1) := by decide +kernel
theorem dX3_firstCrowdedOutBy_1 : decode cX3_firstCrowdedOutBy 1 = .ok (.iload_n 1, 1) := by decide +kernel
theorem dX3_firstCrowdedOutBy_2 : decode cX3_firstCrowdedOutBy 2 = .ok (.invokevirtual 167, 3) := by decide +kernel
theorem dX3_firstCrowdedOutBy_5 : decode cX3_firstCrowdedOutBy 5 = .ok (.ifCond .eq 10, 3) := by decide +kernel
theorem dX3_firstCrowdedOutBy_8 : decode cX3_firstCrowdedOutBy 8 = .ok (.aload_n 0, 1) := by decide +kernel
theorem dX3_firstCrowdedOutBy_9 : decode cX3_firstCrowdedOutBy 9 = .ok (.invokevirtual 170, 3) := by decide +kernel
theorem dX3_firstCrowdedOutBy_12 : decode cX3_firstCrowdedOutBy 12 = .ok (.goto 5, 3) := by decide +kernel
theorem dX3_firstCrowdedOutBy_15 : decode cX3_firstCrowdedOutBy 15 = .ok (.bipush (-4), 2) := by decide +kernel
theorem dX3_firstCrowdedOutBy_17 : decode cX3_firstCrowdedOutBy 17 = .ok (.ireturn, 1) := by decide +kernel
theorem dX3_makeRoomFor_0 : decode cX3_makeRoomFor 0 = .ok (.aload_n 0, 1) := by decide +kernel
theorem dX3_makeRoomFor_1 : decode cX3_makeRoomFor 1 = .ok (.iload_n 1, 1) := by decide +kernel
theorem dX3_makeRoomFor_2 : decode cX3_makeRoomFor 2 = .ok (.invokevirtual 167, 3) := by decide +kernel
theorem dX3_makeRoomFor_5 : decode cX3_makeRoomFor 5 = .ok (.ifCond .eq 15, 3) := by decide +kernel
theorem dX3_makeRoomFor_8 : decode cX3_makeRoomFor 8 = .ok (.aload_n 0, 1) := by decide +kernel
theorem dX3_makeRoomFor_9 : decode cX3_makeRoomFor 9 = .ok (.aload_n 0, 1) := by decide +kernel
theorem dX3_makeRoomFor_10 : decode cX3_makeRoomFor 10 = .ok (.getfield 23, 3) := by decide +kernel
theorem dX3_makeRoomFor_13 : decode cX3_makeRoomFor 13 = .ok (.iconst 3, 1) := by decide +kernel
theorem dX3_makeRoomFor_14 : decode cX3_makeRoomFor 14 = .ok (.iaload, 1) := by decide +kernel
theorem dX3_makeRoomFor_15 : decode cX3_makeRoomFor 15 = .ok (.iconst 1, 1) := by decide +kernel
theorem dX3_makeRoomFor_16 : decode cX3_makeRoomFor 16 = .ok (.isub, 1) := by decide +kernel
theorem dX3_makeRoomFor_17 : decode cX3_makeRoomFor 17 = .ok (.invokevirtual 173, 3) := by decide +kernel
theorem dX3_makeRoomFor_20 : decode cX3_makeRoomFor 20 = .ok (.return_, 1) := by decide +kernel
theorem dX3_crowdOutDownTo_0 : decode cX3_crowdOutDownTo 0 = .ok (.aload_n 0, 1) := by decide +kernel
theorem dX3_crowdOutDownTo_1 : decode cX3_crowdOutDownTo 1 = .ok (.invokevirtual 164, 3) := by decide +kernel
theorem dX3_crowdOutDownTo_4 : decode cX3_crowdOutDownTo 4 = .ok (.iload_n 1, 1) := by decide +kernel
theorem dX3_crowdOutDownTo_5 : decode cX3_crowdOutDownTo 5 = .ok (.isub, 1) := by decide +kernel
theorem dX3_crowdOutDownTo_6 : decode cX3_crowdOutDownTo 6 = .ok (.istore_n 2, 1) := by decide +kernel
theorem dX3_crowdOutDownTo_7 : decode cX3_crowdOutDownTo 7 = .ok (.iconst 0, 1) := by decide +kernel
theorem dX3_crowdOutDownTo_8 : decode cX3_crowdOutDownTo 8 = .ok (.istore_n 3, 1) := by decide +kernel
theorem dX3_crowdOutDownTo_9 : decode cX3_crowdOutDownTo 9 = .ok (.iload_n 3, 1) := by decide +kernel
theorem dX3_crowdOutDownTo_10 : decode cX3_crowdOutDownTo 10 = .ok (.iload_n 2, 1) := by decide +kernel
theorem dX3_crowdOutDownTo_11 : decode cX3_crowdOutDownTo 11 = .ok (.if_icmp .ge 42, 3) := by decide +kernel
theorem dX3_crowdOutDownTo_14 : decode cX3_crowdOutDownTo 14 = .ok (.aload_n 0, 1) := by decide +kernel
theorem dX3_crowdOutDownTo_15 : decode cX3_crowdOutDownTo 15 = .ok (.invokevirtual 170, 3) := by decide +kernel
theorem dX3_crowdOutDownTo_18 : decode cX3_crowdOutDownTo 18 = .ok (.istore 4, 2) := by decide +kernel
theorem dX3_crowdOutDownTo_20 : decode cX3_crowdOutDownTo 20 = .ok (.iload 4, 2) := by decide +kernel
theorem dX3_crowdOutDownTo_22 : decode cX3_crowdOutDownTo 22 = .ok (.ifCond .ge 4, 3) := by decide +kernel
theorem dX3_crowdOutDownTo_25 : decode cX3_crowdOutDownTo 25 = .ok (.return_, 1) := by decide +kernel
theorem dX3_crowdOutDownTo_26 : decode cX3_crowdOutDownTo 26 = .ok (.aload_n 0, 1) := by decide +kernel
theorem dX3_crowdOutDownTo_27 : decode cX3_crowdOutDownTo 27 = .ok (.getfield 19, 3) := by decide +kernel
theorem dX3_crowdOutDownTo_30 : decode cX3_crowdOutDownTo 30 = .ok (.iload 4, 2) := by decide +kernel
theorem dX3_crowdOutDownTo_32 : decode cX3_crowdOutDownTo 32 = .ok (.aaload, 1) := by decide +kernel
theorem dX3_crowdOutDownTo_33 : decode cX3_crowdOutDownTo 33 = .ok (.iconst 0, 1) := by decide +kernel
theorem dX3_crowdOutDownTo_34 : decode cX3_crowdOutDownTo 34 = .ok (.putfield 106, 3) := by decide +kernel
theorem dX3_crowdOutDownTo_37 : decode cX3_crowdOutDownTo 37 = .ok (.aload_n 0, 1) := by decide +kernel
theorem dX3_crowdOutDownTo_38 : decode cX3_crowdOutDownTo 38 = .ok (.dup, 1) := by decide +kernel
theorem dX3_crowdOutDownTo_39 : decode cX3_crowdOutDownTo 39 = .ok (.getfield 55, 3) := by decide +kernel
theorem dX3_crowdOutDownTo_42 : decode cX3_crowdOutDownTo 42 = .ok (.iconst 1, 1) := by decide +kernel
theorem dX3_crowdOutDownTo_43 : decode cX3_crowdOutDownTo 43 = .ok (.iadd, 1) := by decide +kernel
theorem dX3_crowdOutDownTo_44 : decode cX3_crowdOutDownTo 44 = .ok (.putfield 55, 3) := by decide +kernel
theorem dX3_crowdOutDownTo_47 : decode cX3_crowdOutDownTo 47 = .ok (.iinc 3 1, 3) := by decide +kernel
theorem dX3_crowdOutDownTo_50 : decode cX3_crowdOutDownTo 50 = .ok (.goto (-41), 3) := by decide +kernel
theorem dX3_crowdOutDownTo_53 : decode cX3_crowdOutDownTo 53 = .ok (.return_, 1) := by decide +kernel
theorem dX3_oldestUnpinned_0 : decode cX3_oldestUnpinned 0 = .ok (.bipush (-4), 2) := by decide +kernel
theorem dX3_oldestUnpinned_2 : decode cX3_oldestUnpinned 2 = .ok (.istore_n 1, 1) := by decide +kernel
theorem dX3_oldestUnpinned_3 : decode cX3_oldestUnpinned 3 = .ok (.iconst 0, 1) := by decide +kernel
theorem dX3_oldestUnpinned_4 : decode cX3_oldestUnpinned 4 = .ok (.istore_n 2, 1) := by decide +kernel
theorem dX3_oldestUnpinned_5 : decode cX3_oldestUnpinned 5 = .ok (.iconst 0, 1) := by decide +kernel
theorem dX3_oldestUnpinned_6 : decode cX3_oldestUnpinned 6 = .ok (.istore_n 3, 1) := by decide +kernel
theorem dX3_oldestUnpinned_7 : decode cX3_oldestUnpinned 7 = .ok (.iload_n 3, 1) := by decide +kernel
theorem dX3_oldestUnpinned_8 : decode cX3_oldestUnpinned 8 = .ok (.bipush 12, 2) := by decide +kernel
theorem dX3_oldestUnpinned_10 : decode cX3_oldestUnpinned 10 = .ok (.if_icmp .ge 68, 3) := by decide +kernel
theorem dX3_oldestUnpinned_13 : decode cX3_oldestUnpinned 13 = .ok (.aload_n 0, 1) := by decide +kernel
theorem dX3_oldestUnpinned_14 : decode cX3_oldestUnpinned 14 = .ok (.getfield 19, 3) := by decide +kernel
theorem dX3_oldestUnpinned_17 : decode cX3_oldestUnpinned 17 = .ok (.iload_n 3, 1) := by decide +kernel
theorem dX3_oldestUnpinned_18 : decode cX3_oldestUnpinned 18 = .ok (.aaload, 1) := by decide +kernel
theorem dX3_oldestUnpinned_19 : decode cX3_oldestUnpinned 19 = .ok (.astore 4, 2) := by decide +kernel
theorem dX3_oldestUnpinned_21 : decode cX3_oldestUnpinned 21 = .ok (.iload_n 1, 1) := by decide +kernel
theorem dX3_oldestUnpinned_22 : decode cX3_oldestUnpinned 22 = .ok (.bipush (-4), 2) := by decide +kernel
theorem dX3_oldestUnpinned_24 : decode cX3_oldestUnpinned 24 = .ok (.if_icmp .eq 12, 3) := by decide +kernel
theorem dX3_oldestUnpinned_27 : decode cX3_oldestUnpinned 27 = .ok (.aload 4, 2) := by decide +kernel
theorem dX3_oldestUnpinned_29 : decode cX3_oldestUnpinned 29 = .ok (.getfield 133, 3) := by decide +kernel
theorem dX3_oldestUnpinned_32 : decode cX3_oldestUnpinned 32 = .ok (.iload_n 2, 1) := by decide +kernel
theorem dX3_oldestUnpinned_33 : decode cX3_oldestUnpinned 33 = .ok (.if_icmp .ge 7, 3) := by decide +kernel
theorem dX3_oldestUnpinned_36 : decode cX3_oldestUnpinned 36 = .ok (.iconst 1, 1) := by decide +kernel
theorem dX3_oldestUnpinned_37 : decode cX3_oldestUnpinned 37 = .ok (.goto 4, 3) := by decide +kernel
theorem dX3_oldestUnpinned_40 : decode cX3_oldestUnpinned 40 = .ok (.iconst 0, 1) := by decide +kernel
theorem dX3_oldestUnpinned_41 : decode cX3_oldestUnpinned 41 = .ok (.istore 5, 2) := by decide +kernel
theorem dX3_oldestUnpinned_43 : decode cX3_oldestUnpinned 43 = .ok (.aload 4, 2) := by decide +kernel
theorem dX3_oldestUnpinned_45 : decode cX3_oldestUnpinned 45 = .ok (.getfield 106, 3) := by decide +kernel
theorem dX3_oldestUnpinned_48 : decode cX3_oldestUnpinned 48 = .ok (.ifCond .eq 24, 3) := by decide +kernel
theorem dX3_oldestUnpinned_51 : decode cX3_oldestUnpinned 51 = .ok (.aload 4, 2) := by decide +kernel
theorem dX3_oldestUnpinned_53 : decode cX3_oldestUnpinned 53 = .ok (.getfield 154, 3) := by decide +kernel
theorem dX3_oldestUnpinned_56 : decode cX3_oldestUnpinned 56 = .ok (.ifCond .ne 16, 3) := by decide +kernel
theorem dX3_oldestUnpinned_59 : decode cX3_oldestUnpinned 59 = .ok (.iload 5, 2) := by decide +kernel
theorem dX3_oldestUnpinned_61 : decode cX3_oldestUnpinned 61 = .ok (.ifCond .eq 11, 3) := by decide +kernel
theorem dX3_oldestUnpinned_64 : decode cX3_oldestUnpinned 64 = .ok (.iload_n 3, 1) := by decide +kernel
theorem dX3_oldestUnpinned_65 : decode cX3_oldestUnpinned 65 = .ok (.istore_n 1, 1) := by decide +kernel
theorem dX3_oldestUnpinned_66 : decode cX3_oldestUnpinned 66 = .ok (.aload 4, 2) := by decide +kernel
theorem dX3_oldestUnpinned_68 : decode cX3_oldestUnpinned 68 = .ok (.getfield 133, 3) := by decide +kernel
theorem dX3_oldestUnpinned_71 : decode cX3_oldestUnpinned 71 = .ok (.istore_n 2, 1) := by decide +kernel
theorem dX3_oldestUnpinned_72 : decode cX3_oldestUnpinned 72 = .ok (.iinc 3 1, 3) := by decide +kernel
theorem dX3_oldestUnpinned_75 : decode cX3_oldestUnpinned 75 = .ok (.goto (-68), 3) := by decide +kernel
theorem dX3_oldestUnpinned_78 : decode cX3_oldestUnpinned 78 = .ok (.iload_n 1, 1) := by decide +kernel
theorem dX3_oldestUnpinned_79 : decode cX3_oldestUnpinned 79 = .ok (.ireturn, 1) := by decide +kernel
theorem dX3_keptPlansOf_0 : decode cX3_keptPlansOf 0 = .ok (.iconst 0, 1) := by decide +kernel
theorem dX3_keptPlansOf_1 : decode cX3_keptPlansOf 1 = .ok (.istore_n 2, 1) := by decide +kernel
theorem dX3_keptPlansOf_2 : decode cX3_keptPlansOf 2 = .ok (.iconst 0, 1) := by decide +kernel
theorem dX3_keptPlansOf_3 : decode cX3_keptPlansOf 3 = .ok (.istore_n 3, 1) := by decide +kernel
theorem dX3_keptPlansOf_4 : decode cX3_keptPlansOf 4 = .ok (.iload_n 3, 1) := by decide +kernel
theorem dX3_keptPlansOf_5 : decode cX3_keptPlansOf 5 = .ok (.iconst 3, 1) := by decide +kernel
theorem dX3_keptPlansOf_6 : decode cX3_keptPlansOf 6 = .ok (.if_icmp .ge 28, 3) := by decide +kernel
theorem dX3_keptPlansOf_9 : decode cX3_keptPlansOf 9 = .ok (.aload_n 0, 1) := by decide +kernel
theorem dX3_keptPlansOf_10 : decode cX3_keptPlansOf 10 = .ok (.getfield 19, 3) := by decide +kernel
theorem dX3_keptPlansOf_13 : decode cX3_keptPlansOf 13 = .ok (.iconst 3, 1) := by decide +kernel
theorem dX3_keptPlansOf_14 : decode cX3_keptPlansOf 14 = .ok (.iload_n 1, 1) := by decide +kernel
theorem dX3_keptPlansOf_15 : decode cX3_keptPlansOf 15 = .ok (.imul, 1) := by decide +kernel
theorem dX3_keptPlansOf_16 : decode cX3_keptPlansOf 16 = .ok (.iload_n 3, 1) := by decide +kernel
theorem dX3_keptPlansOf_17 : decode cX3_keptPlansOf 17 = .ok (.iadd, 1) := by decide +kernel
theorem dX3_keptPlansOf_18 : decode cX3_keptPlansOf 18 = .ok (.aaload, 1) := by decide +kernel
theorem dX3_keptPlansOf_19 : decode cX3_keptPlansOf 19 = .ok (.getfield 106, 3) := by decide +kernel
theorem dX3_keptPlansOf_22 : decode cX3_keptPlansOf 22 = .ok (.ifCond .eq 6, 3) := by decide +kernel
theorem dX3_keptPlansOf_25 : decode cX3_keptPlansOf 25 = .ok (.iinc 2 1, 3) := by decide +kernel
theorem dX3_keptPlansOf_28 : decode cX3_keptPlansOf 28 = .ok (.iinc 3 1, 3) := by decide +kernel
theorem dX3_keptPlansOf_31 : decode cX3_keptPlansOf 31 = .ok (.goto (-27), 3) := by decide +kernel
theorem dX3_keptPlansOf_34 : decode cX3_keptPlansOf 34 = .ok (.iload_n 2, 1) := by decide +kernel
theorem dX3_keptPlansOf_35 : decode cX3_keptPlansOf 35 = .ok (.ireturn, 1) := by decide +kernel
theorem dX3_keptPlans_0 : decode cX3_keptPlans 0 = .ok (.iconst 0, 1) := by decide +kernel
theorem dX3_keptPlans_1 : decode cX3_keptPlans 1 = .ok (.istore_n 1, 1) := by decide +kernel
theorem dX3_keptPlans_2 : decode cX3_keptPlans 2 = .ok (.iconst 0, 1) := by decide +kernel
theorem dX3_keptPlans_3 : decode cX3_keptPlans 3 = .ok (.istore_n 2, 1) := by decide +kernel
theorem dX3_keptPlans_4 : decode cX3_keptPlans 4 = .ok (.iload_n 2, 1) := by decide +kernel
theorem dX3_keptPlans_5 : decode cX3_keptPlans 5 = .ok (.bipush 12, 2) := by decide +kernel
theorem dX3_keptPlans_7 : decode cX3_keptPlans 7 = .ok (.if_icmp .ge 24, 3) := by decide +kernel
theorem dX3_keptPlans_10 : decode cX3_keptPlans 10 = .ok (.aload_n 0, 1) := by decide +kernel
theorem dX3_keptPlans_11 : decode cX3_keptPlans 11 = .ok (.getfield 19, 3) := by decide +kernel
theorem dX3_keptPlans_14 : decode cX3_keptPlans 14 = .ok (.iload_n 2, 1) := by decide +kernel
theorem dX3_keptPlans_15 : decode cX3_keptPlans 15 = .ok (.aaload, 1) := by decide +kernel
theorem dX3_keptPlans_16 : decode cX3_keptPlans 16 = .ok (.getfield 106, 3) := by decide +kernel
theorem dX3_keptPlans_19 : decode cX3_keptPlans 19 = .ok (.ifCond .eq 6, 3) := by decide +kernel
theorem dX3_keptPlans_22 : decode cX3_keptPlans 22 = .ok (.iinc 1 1, 3) := by decide +kernel
theorem dX3_keptPlans_25 : decode cX3_keptPlans 25 = .ok (.iinc 2 1, 3) := by decide +kernel
theorem dX3_keptPlans_28 : decode cX3_keptPlans 28 = .ok (.goto (-24), 3) := by decide +kernel
theorem dX3_keptPlans_31 : decode cX3_keptPlans 31 = .ok (.iload_n 1, 1) := by decide +kernel
theorem dX3_keptPlans_32 : decode cX3_keptPlans 32 = .ok (.ireturn, 1) := by decide +kernel
theorem dX3_pinnedPlans_0 : decode cX3_pinnedPlans 0 = .ok (.iconst 0, 1) := by decide +kernel
theorem dX3_pinnedPlans_1 : decode cX3_pinnedPlans 1 = .ok (.istore_n 1, 1) := by decide +kernel
theorem dX3_pinnedPlans_2 : decode cX3_pinnedPlans 2 = .ok (.iconst 0, 1) := by decide +kernel
theorem dX3_pinnedPlans_3 : decode cX3_pinnedPlans 3 = .ok (.istore_n 2, 1) := by decide +kernel
theorem dX3_pinnedPlans_4 : decode cX3_pinnedPlans 4 = .ok (.iload_n 2, 1) := by decide +kernel
theorem dX3_pinnedPlans_5 : decode cX3_pinnedPlans 5 = .ok (.bipush 12, 2) := by decide +kernel
theorem dX3_pinnedPlans_7 : decode cX3_pinnedPlans 7 = .ok (.if_icmp .ge 36, 3) := by decide +kernel
theorem dX3_pinnedPlans_10 : decode cX3_pinnedPlans 10 = .ok (.aload_n 0, 1) := by decide +kernel
theorem dX3_pinnedPlans_11 : decode cX3_pinnedPlans 11 = .ok (.getfield 19, 3) := by decide +kernel
theorem dX3_pinnedPlans_14 : decode cX3_pinnedPlans 14 = .ok (.iload_n 2, 1) := by decide +kernel
theorem dX3_pinnedPlans_15 : decode cX3_pinnedPlans 15 = .ok (.aaload, 1) := by decide +kernel
theorem dX3_pinnedPlans_16 : decode cX3_pinnedPlans 16 = .ok (.getfield 106, 3) := by decide +kernel
theorem dX3_pinnedPlans_19 : decode cX3_pinnedPlans 19 = .ok (.ifCond .eq 18, 3) := by decide +kernel
theorem dX3_pinnedPlans_22 : decode cX3_pinnedPlans 22 = .ok (.aload_n 0, 1) := by decide +kernel
theorem dX3_pinnedPlans_23 : decode cX3_pinnedPlans 23 = .ok (.getfield 19, 3) := by decide +kernel
theorem dX3_pinnedPlans_26 : decode cX3_pinnedPlans 26 = .ok (.iload_n 2, 1) := by decide +kernel
theorem dX3_pinnedPlans_27 : decode cX3_pinnedPlans 27 = .ok (.aaload, 1) := by decide +kernel
theorem dX3_pinnedPlans_28 : decode cX3_pinnedPlans 28 = .ok (.getfield 154, 3) := by decide +kernel
theorem dX3_pinnedPlans_31 : decode cX3_pinnedPlans 31 = .ok (.ifCond .eq 6, 3) := by decide +kernel
theorem dX3_pinnedPlans_34 : decode cX3_pinnedPlans 34 = .ok (.iinc 1 1, 3) := by decide +kernel
theorem dX3_pinnedPlans_37 : decode cX3_pinnedPlans 37 = .ok (.iinc 2 1, 3) := by decide +kernel
theorem dX3_pinnedPlans_40 : decode cX3_pinnedPlans 40 = .ok (.goto (-36), 3) := by decide +kernel
theorem dX3_pinnedPlans_43 : decode cX3_pinnedPlans 43 = .ok (.iload_n 1, 1) := by decide +kernel
theorem dX3_pinnedPlans_44 : decode cX3_pinnedPlans 44 = .ok (.ireturn, 1) := by decide +kernel
theorem dX3_stalePlans_0 : decode cX3_stalePlans 0 = .ok (.iconst 0, 1) := by decide +kernel
theorem dX3_stalePlans_1 : decode cX3_stalePlans 1 = .ok (.istore_n 1, 1) := by decide +kernel
theorem dX3_stalePlans_2 : decode cX3_stalePlans 2 = .ok (.iconst 0, 1) := by decide +kernel
theorem dX3_stalePlans_3 : decode cX3_stalePlans 3 = .ok (.istore_n 2, 1) := by decide +kernel
theorem dX3_stalePlans_4 : decode cX3_stalePlans 4 = .ok (.iload_n 2, 1) := by decide +kernel
theorem dX3_stalePlans_5 : decode cX3_stalePlans 5 = .ok (.bipush 12, 2) := by decide +kernel
theorem dX3_stalePlans_7 : decode cX3_stalePlans 7 = .ok (.if_icmp .ge 32, 3) := by decide +kernel
theorem dX3_stalePlans_10 : decode cX3_stalePlans 10 = .ok (.aload_n 0, 1) := by decide +kernel
theorem dX3_stalePlans_11 : decode cX3_stalePlans 11 = .ok (.getfield 19, 3) := by decide +kernel
theorem dX3_stalePlans_14 : decode cX3_stalePlans 14 = .ok (.iload_n 2, 1) := by decide +kernel
theorem dX3_stalePlans_15 : decode cX3_stalePlans 15 = .ok (.aaload, 1) := by decide +kernel
theorem dX3_stalePlans_16 : decode cX3_stalePlans 16 = .ok (.getfield 106, 3) := by decide +kernel
theorem dX3_stalePlans_19 : decode cX3_stalePlans 19 = .ok (.ifCond .eq 14, 3) := by decide +kernel
theorem dX3_stalePlans_22 : decode cX3_stalePlans 22 = .ok (.aload_n 0, 1) := by decide +kernel
theorem dX3_stalePlans_23 : decode cX3_stalePlans 23 = .ok (.iload_n 2, 1) := by decide +kernel
theorem dX3_stalePlans_24 : decode cX3_stalePlans 24 = .ok (.invokevirtual 176, 3) := by decide +kernel
theorem dX3_stalePlans_27 : decode cX3_stalePlans 27 = .ok (.ifCond .eq 6, 3) := by decide +kernel
theorem dX3_stalePlans_30 : decode cX3_stalePlans 30 = .ok (.iinc 1 1, 3) := by decide +kernel
theorem dX3_stalePlans_33 : decode cX3_stalePlans 33 = .ok (.iinc 2 1, 3) := by decide +kernel
theorem dX3_stalePlans_36 : decode cX3_stalePlans 36 = .ok (.goto (-32), 3) := by decide +kernel
theorem dX3_stalePlans_39 : decode cX3_stalePlans 39 = .ok (.iload_n 1, 1) := by decide +kernel
theorem dX3_stalePlans_40 : decode cX3_stalePlans 40 = .ok (.ireturn, 1) := by decide +kernel
theorem dX4_init_0 : decode cX4_init 0 = .ok (.aload_n 0, 1) := by decide +kernel
theorem dX4_init_1 : decode cX4_init 1 = .ok (.invokespecial 1, 3) := by decide +kernel
theorem dX4_init_4 : decode cX4_init 4 = .ok (.aload_n 0, 1) := by decide +kernel
theorem dX4_init_5 : decode cX4_init 5 = .ok (.bipush 100, 2) := by decide +kernel
theorem dX4_init_7 : decode cX4_init 7 = .ok (.putfield 7, 3) := by decide +kernel
theorem dX4_init_10 : decode cX4_init 10 = .ok (.aload_n 0, 1) := by decide +kernel
theorem dX4_init_11 : decode cX4_init 11 = .ok (.bipush 10, 2) := by decide +kernel
theorem dX4_init_13 : decode cX4_init 13 = .ok (.putfield 13, 3) := by decide +kernel
theorem dX4_init_16 : decode cX4_init 16 = .ok (.return_, 1) := by decide +kernel
theorem dX4_copyFrom_0 : decode cX4_copyFrom 0 = .ok (.aload_n 0, 1) := by decide +kernel
theorem dX4_copyFrom_1 : decode cX4_copyFrom 1 = .ok (.aload_n 1, 1) := by decide +kernel
theorem dX4_copyFrom_2 : decode cX4_copyFrom 2 = .ok (.getfield 7, 3) := by decide +kernel
theorem dX4_copyFrom_5 : decode cX4_copyFrom 5 = .ok (.putfield 7, 3) := by decide +kernel
theorem dX4_copyFrom_8 : decode cX4_copyFrom 8 = .ok (.aload_n 0, 1) := by decide +kernel
theorem dX4_copyFrom_9 : decode cX4_copyFrom 9 = .ok (.aload_n 1, 1) := by decide +kernel
theorem dX4_copyFrom_10 : decode cX4_copyFrom 10 = .ok (.getfield 13, 3) := by decide +kernel
theorem dX4_copyFrom_13 : decode cX4_copyFrom 13 = .ok (.putfield 13, 3) := by decide +kernel
theorem dX4_copyFrom_16 : decode cX4_copyFrom 16 = .ok (.aload_n 0, 1) := by decide +kernel
theorem dX4_copyFrom_17 : decode cX4_copyFrom 17 = .ok (.aload_n 1, 1) := by decide +kernel
theorem dX4_copyFrom_18 : decode cX4_copyFrom 18 = .ok (.getfield 16, 3) := by decide +kernel
theorem dX4_copyFrom_21 : decode cX4_copyFrom 21 = .ok (.putfield 16, 3) := by decide +kernel
theorem dX4_copyFrom_24 : decode cX4_copyFrom 24 = .ok (.aload_n 0, 1) := by decide +kernel
theorem dX4_copyFrom_25 : decode cX4_copyFrom 25 = .ok (.aload_n 1, 1) := by decide +kernel
theorem dX4_copyFrom_26 : decode cX4_copyFrom 26 = .ok (.getfield 19, 3) := by decide +kernel
theorem dX4_copyFrom_29 : decode cX4_copyFrom 29 = .ok (.putfield 19, 3) := by decide +kernel
theorem dX4_copyFrom_32 : decode cX4_copyFrom 32 = .ok (.return_, 1) := by decide +kernel
theorem dX5_init_0 : decode cX5_init 0 = .ok (.aload_n 0, 1) := by decide +kernel
theorem dX5_init_1 : decode cX5_init 1 = .ok (.invokespecial 1, 3) := by decide +kernel
theorem dX5_init_4 : decode cX5_init 4 = .ok (.aload_n 0, 1) := by decide +kernel
theorem dX5_init_5 : decode cX5_init 5 = .ok (.new 7, 3) := by decide +kernel
theorem dX5_init_8 : decode cX5_init 8 = .ok (.dup, 1) := by decide +kernel
theorem dX5_init_9 : decode cX5_init 9 = .ok (.invokespecial 9, 3) := by decide +kernel
theorem dX5_init_12 : decode cX5_init 12 = .ok (.putfield 10, 3) := by decide +kernel
theorem dX5_init_15 : decode cX5_init 15 = .ok (.aload_n 0, 1) := by decide +kernel
theorem dX5_init_16 : decode cX5_init 16 = .ok (.new 7, 3) := by decide +kernel
theorem dX5_init_19 : decode cX5_init 19 = .ok (.dup, 1) := by decide +kernel
theorem dX5_init_20 : decode cX5_init 20 = .ok (.invokespecial 9, 3) := by decide +kernel
theorem dX5_init_23 : decode cX5_init 23 = .ok (.putfield 16, 3) := by decide +kernel
theorem dX5_init_26 : decode cX5_init 26 = .ok (.aload_n 0, 1) := by decide +kernel
theorem dX5_init_27 : decode cX5_init 27 = .ok (.new 19, 3) := by decide +kernel
theorem dX5_init_30 : decode cX5_init 30 = .ok (.dup, 1) := by decide +kernel
theorem dX5_init_31 : decode cX5_init 31 = .ok (.invokespecial 21, 3) := by decide +kernel
theorem dX5_init_34 : decode cX5_init 34 = .ok (.putfield 22, 3) := by decide +kernel
theorem dX5_init_37 : decode cX5_init 37 = .ok (.aload_n 0, 1) := by decide +kernel
theorem dX5_init_38 : decode cX5_init 38 = .ok (.new 26, 3) := by decide +kernel
theorem dX5_init_41 : decode cX5_init 41 = .ok (.dup, 1) := by decide +kernel
theorem dX5_init_42 : decode cX5_init 42 = .ok (.invokespecial 28, 3) := by decide +kernel
theorem dX5_init_45 : decode cX5_init 45 = .ok (.putfield 29, 3) := by decide +kernel
theorem dX5_init_48 : decode cX5_init 48 = .ok (.aload_n 0, 1) := by decide +kernel
theorem dX5_init_49 : decode cX5_init 49 = .ok (.iconst 0, 1) := by decide +kernel
theorem dX5_init_50 : decode cX5_init 50 = .ok (.putfield 33, 3) := by decide +kernel
theorem dX5_init_53 : decode cX5_init 53 = .ok (.return_, 1) := by decide +kernel
theorem dX5_table_0 : decode cX5_table 0 = .ok (.iload_n 1, 1) := by decide +kernel
theorem dX5_table_1 : decode cX5_table 1 = .ok (.invokestatic 37, 3) := by decide +kernel
theorem dX5_table_4 : decode cX5_table 4 = .ok (.ifCond .ne 5, 3) := by decide +kernel
theorem dX5_table_7 : decode cX5_table 7 = .ok (.iconst (-1), 1) := by decide +kernel
theorem dX5_table_8 : decode cX5_table 8 = .ok (.ireturn, 1) := by decide +kernel
theorem dX5_table_9 : decode cX5_table 9 = .ok (.iload_n 3, 1) := by decide +kernel
theorem dX5_table_10 : decode cX5_table 10 = .ok (.iload_n 2, 1) := by decide +kernel
theorem dX5_table_11 : decode cX5_table 11 = .ok (.ifCond .eq 7, 3) := by decide +kernel
theorem dX5_table_14 : decode cX5_table 14 = .ok (.iconst 1, 1) := by decide +kernel
theorem dX5_table_15 : decode cX5_table 15 = .ok (.goto 4, 3) := by decide +kernel
theorem dX5_table_18 : decode cX5_table 18 = .ok (.iconst 0, 1) := by decide +kernel
theorem dX5_table_19 : decode cX5_table 19 = .ok (.if_icmp .lt 10, 3) := by decide +kernel
theorem dX5_table_22 : decode cX5_table 22 = .ok (.iload_n 3, 1) := by decide +kernel
theorem dX5_table_23 : decode cX5_table 23 = .ok (.sipush 9999, 3) := by decide +kernel
theorem dX5_table_26 : decode cX5_table 26 = .ok (.if_icmp .le 6, 3) := by decide +kernel
theorem dX5_table_29 : decode cX5_table 29 = .ok (.bipush (-2), 2) := by decide +kernel
theorem dX5_table_31 : decode cX5_table 31 = .ok (.ireturn, 1) := by decide +kernel
theorem dX5_table_32 : decode cX5_table 32 = .ok (.iload_n 2, 1) := by decide +kernel
theorem dX5_table_33 : decode cX5_table 33 = .ok (.ifCond .eq 18, 3) := by decide +kernel
theorem dX5_table_36 : decode cX5_table 36 = .ok (.aload_n 0, 1) := by decide +kernel
theorem dX5_table_37 : decode cX5_table 37 = .ok (.getfield 10, 3) := by decide +kernel
theorem dX5_table_40 : decode cX5_table 40 = .ok (.getfield 41, 3) := by decide +kernel
theorem dX5_table_43 : decode cX5_table 43 = .ok (.iload_n 1, 1) := by decide +kernel
theorem dX5_table_44 : decode cX5_table 44 = .ok (.aaload, 1) := by decide +kernel
theorem dX5_table_45 : decode cX5_table 45 = .ok (.getfield 45, 3) := by decide +kernel
theorem dX5_table_48 : decode cX5_table 48 = .ok (.goto 15, 3) := by decide +kernel
theorem dX5_table_51 : decode cX5_table 51 = .ok (.aload_n 0, 1) := by decide +kernel
theorem dX5_table_52 : decode cX5_table 52 = .ok (.getfield 10, 3) := by decide +kernel
theorem dX5_table_55 : decode cX5_table 55 = .ok (.getfield 41, 3) := by decide +kernel
theorem dX5_table_58 : decode cX5_table 58 = .ok (.iload_n 1, 1) := by decide +kernel
theorem dX5_table_59 : decode cX5_table 59 = .ok (.aaload, 1) := by decide +kernel
theorem dX5_table_60 : decode cX5_table 60 = .ok (.getfield 51, 3) := by decide +kernel
theorem dX5_table_63 : decode cX5_table 63 = .ok (.istore 4, 2) := by decide +kernel
theorem dX5_table_65 : decode cX5_table 65 = .ok (.iload 4, 2) := by decide +kernel
theorem dX5_table_67 : decode cX5_table 67 = .ok (.iload_n 3, 1) := by decide +kernel
theorem dX5_table_68 : decode cX5_table 68 = .ok (.if_icmp .ne 6, 3) := by decide +kernel
theorem dX5_table_71 : decode cX5_table 71 = .ok (.bipush (-4), 2) := by decide +kernel
theorem dX5_table_73 : decode cX5_table 73 = .ok (.ireturn, 1) := by decide +kernel
theorem dX5_table_74 : decode cX5_table 74 = .ok (.aload_n 0, 1) := by decide +kernel
theorem dX5_table_75 : decode cX5_table 75 = .ok (.getfield 22, 3) := by decide +kernel
theorem dX5_table_78 : decode cX5_table 78 = .ok (.aload_n 0, 1) := by decide +kernel
theorem dX5_table_79 : decode cX5_table 79 = .ok (.getfield 10, 3) := by decide +kernel
theorem dX5_table_82 : decode cX5_table 82 = .ok (.invokevirtual 54, 3) := by decide +kernel
theorem dX5_table_85 : decode cX5_table 85 = .ok (.aload_n 0, 1) := by decide +kernel
theorem dX5_table_86 : decode cX5_table 86 = .ok (.getfield 10, 3) := by decide +kernel
theorem dX5_table_89 : decode cX5_table 89 = .ok (.iload_n 1, 1) := by decide +kernel
theorem dX5_table_90 : decode cX5_table 90 = .ok (.iload_n 2, 1) := by decide +kernel
theorem dX5_table_91 : decode cX5_table 91 = .ok (.iload_n 3, 1) := by decide +kernel
theorem dX5_table_92 : decode cX5_table 92 = .ok (.invokevirtual 58, 3) := by decide +kernel
theorem dX5_table_95 : decode cX5_table 95 = .ok (.iload 4, 2) := by decide +kernel
theorem dX5_table_97 : decode cX5_table 97 = .ok (.ireturn, 1) := by decide +kernel
theorem dX5_ask_0 : decode cX5_ask 0 = .ok (.iload_n 1, 1) := by decide +kernel
theorem dX5_ask_1 : decode cX5_ask 1 = .ok (.invokestatic 62, 3) := by decide +kernel
theorem dX5_ask_4 : decode cX5_ask 4 = .ok (.ifCond .ne 5, 3) := by decide +kernel
theorem dX5_ask_7 : decode cX5_ask 7 = .ok (.iconst (-1), 1) := by decide +kernel
theorem dX5_ask_8 : decode cX5_ask 8 = .ok (.ireturn, 1) := by decide +kernel
theorem dX5_ask_9 : decode cX5_ask 9 = .ok (.iload_n 1, 1) := by decide +kernel
theorem dX5_ask_10 : decode cX5_ask 10 = .ok (.iconst 3, 1) := by decide +kernel
theorem dX5_ask_11 : decode cX5_ask 11 = .ok (.irem, 1) := by decide +kernel
theorem dX5_ask_12 : decode cX5_ask 12 = .ok (.iload_n 2, 1) := by decide +kernel
theorem dX5_ask_13 : decode cX5_ask 13 = .ok (.invokestatic 65, 3) := by decide +kernel
theorem dX5_ask_16 : decode cX5_ask 16 = .ok (.ifCond .ne 6, 3) := by decide +kernel
theorem dX5_ask_19 : decode cX5_ask 19 = .ok (.bipush (-2), 2) := by decide +kernel
theorem dX5_ask_21 : decode cX5_ask 21 = .ok (.ireturn, 1) := by decide +kernel
theorem dX5_ask_22 : decode cX5_ask 22 = .ok (.aload_n 0, 1) := by decide +kernel
theorem dX5_ask_23 : decode cX5_ask 23 = .ok (.getfield 22, 3) := by decide +kernel
theorem dX5_ask_26 : decode cX5_ask 26 = .ok (.aload_n 0, 1) := by decide +kernel
theorem dX5_ask_27 : decode cX5_ask 27 = .ok (.getfield 10, 3) := by decide +kernel
theorem dX5_ask_30 : decode cX5_ask 30 = .ok (.invokevirtual 54, 3) := by decide +kernel
theorem dX5_ask_33 : decode cX5_ask 33 = .ok (.aload_n 0, 1) := by decide +kernel
theorem dX5_ask_34 : decode cX5_ask 34 = .ok (.getfield 10, 3) := by decide +kernel
theorem dX5_ask_37 : decode cX5_ask 37 = .ok (.iload_n 1, 1) := by decide +kernel
theorem dX5_ask_38 : decode cX5_ask 38 = .ok (.iload_n 2, 1) := by decide +kernel
theorem dX5_ask_39 : decode cX5_ask 39 = .ok (.invokevirtual 69, 3) := by decide +kernel
theorem dX5_ask_42 : decode cX5_ask 42 = .ok (.ireturn, 1) := by decide +kernel
theorem dX5_askAll_0 : decode cX5_askAll 0 = .ok (.aload_n 0, 1) := by decide +kernel
theorem dX5_askAll_1 : decode cX5_askAll 1 = .ok (.getfield 29, 3) := by decide +kernel
theorem dX5_askAll_4 : decode cX5_askAll 4 = .ok (.invokevirtual 73, 3) := by decide +kernel
theorem dX5_askAll_7 : decode cX5_askAll 7 = .ok (.istore_n 1, 1) := by decide +kernel
theorem dX5_askAll_8 : decode cX5_askAll 8 = .ok (.iload_n 1, 1) := by decide +kernel
theorem dX5_askAll_9 : decode cX5_askAll 9 = .ok (.bipush (-4), 2) := by decide +kernel
theorem dX5_askAll_11 : decode cX5_askAll 11 = .ok (.if_icmp .eq 8, 3) := by decide +kernel
theorem dX5_askAll_14 : decode cX5_askAll 14 = .ok (.bipush (-100), 2) := by decide +kernel
theorem dX5_askAll_16 : decode cX5_askAll 16 = .ok (.iload_n 1, 1) := by decide +kernel
theorem dX5_askAll_17 : decode cX5_askAll 17 = .ok (.isub, 1) := by decide +kernel
theorem dX5_askAll_18 : decode cX5_askAll 18 = .ok (.ireturn, 1) := by decide +kernel
theorem dX5_askAll_19 : decode cX5_askAll 19 = .ok (.aload_n 0, 1) := by decide +kernel
theorem dX5_askAll_20 : decode cX5_askAll 20 = .ok (.getfield 22, 3) := by decide +kernel
theorem dX5_askAll_23 : decode cX5_askAll 23 = .ok (.aload_n 0, 1) := by decide +kernel
theorem dX5_askAll_24 : decode cX5_askAll 24 = .ok (.getfield 10, 3) := by decide +kernel
theorem dX5_askAll_27 : decode cX5_askAll 27 = .ok (.invokevirtual 54, 3) := by decide +kernel
theorem dX5_askAll_30 : decode cX5_askAll 30 = .ok (.iconst 0, 1) := by decide +kernel
theorem dX5_askAll_31 : decode cX5_askAll 31 = .ok (.istore_n 2, 1) := by decide +kernel
theorem dX5_askAll_32 : decode cX5_askAll 32 = .ok (.iconst 0, 1) := by decide +kernel
theorem dX5_askAll_33 : decode cX5_askAll 33 = .ok (.istore_n 3, 1) := by decide +kernel
theorem dX5_askAll_34 : decode cX5_askAll 34 = .ok (.iload_n 3, 1) := by decide +kernel
theorem dX5_askAll_35 : decode cX5_askAll 35 = .ok (.aload_n 0, 1) := by decide +kernel
theorem dX5_askAll_36 : decode cX5_askAll 36 = .ok (.getfield 29, 3) := by decide +kernel
theorem dX5_askAll_39 : decode cX5_askAll 39 = .ok (.getfield 77, 3) := by decide +kernel
theorem dX5_askAll_42 : decode cX5_askAll 42 = .ok (.if_icmp .ge 104, 3) := by decide +kernel
theorem dX5_askAll_45 : decode cX5_askAll 45 = .ok (.aload_n 0, 1) := by decide +kernel
theorem dX5_askAll_46 : decode cX5_askAll 46 = .ok (.getfield 29, 3) := by decide +kernel
theorem dX5_askAll_49 : decode cX5_askAll 49 = .ok (.getfield 80, 3) := by decide +kernel
theorem dX5_askAll_52 : decode cX5_askAll 52 = .ok (.iload_n 3, 1) := by decide +kernel
theorem dX5_askAll_53 : decode cX5_askAll 53 = .ok (.iaload, 1) := by decide +kernel
theorem dX5_askAll_54 : decode cX5_askAll 54 = .ok (.istore 4, 2) := by decide +kernel
theorem dX5_askAll_56 : decode cX5_askAll 56 = .ok (.iload 4, 2) := by decide +kernel
theorem dX5_askAll_58 : decode cX5_askAll 58 = .ok (.iconst 3, 1) := by decide +kernel
theorem dX5_askAll_59 : decode cX5_askAll 59 = .ok (.if_icmp .eq 9, 3) := by decide +kernel
theorem dX5_askAll_62 : decode cX5_askAll 62 = .ok (.iload 4, 2) := by decide +kernel
theorem dX5_askAll_64 : decode cX5_askAll 64 = .ok (.iconst 4, 1) := by decide +kernel
theorem dX5_askAll_65 : decode cX5_askAll 65 = .ok (.if_icmp .ne 42, 3) := by decide +kernel
theorem dX5_askAll_68 : decode cX5_askAll 68 = .ok (.aload_n 0, 1) := by decide +kernel
theorem dX5_askAll_69 : decode cX5_askAll 69 = .ok (.getfield 10, 3) := by decide +kernel
theorem dX5_askAll_72 : decode cX5_askAll 72 = .ok (.aload_n 0, 1) := by decide +kernel
theorem dX5_askAll_73 : decode cX5_askAll 73 = .ok (.getfield 29, 3) := by decide +kernel
theorem dX5_askAll_76 : decode cX5_askAll 76 = .ok (.getfield 84, 3) := by decide +kernel
theorem dX5_askAll_79 : decode cX5_askAll 79 = .ok (.iload_n 3, 1) := by decide +kernel
theorem dX5_askAll_80 : decode cX5_askAll 80 = .ok (.iaload, 1) := by decide +kernel
theorem dX5_askAll_81 : decode cX5_askAll 81 = .ok (.iload 4, 2) := by decide +kernel
theorem dX5_askAll_83 : decode cX5_askAll 83 = .ok (.iconst 4, 1) := by decide +kernel
theorem dX5_askAll_84 : decode cX5_askAll 84 = .ok (.if_icmp .ne 7, 3) := by decide +kernel
theorem dX5_askAll_87 : decode cX5_askAll 87 = .ok (.iconst 1, 1) := by decide +kernel
theorem dX5_askAll_88 : decode cX5_askAll 88 = .ok (.goto 4, 3) := by decide +kernel
theorem dX5_askAll_91 : decode cX5_askAll 91 = .ok (.iconst 0, 1) := by decide +kernel
theorem dX5_askAll_92 : decode cX5_askAll 92 = .ok (.aload_n 0, 1) := by decide +kernel
theorem dX5_askAll_93 : decode cX5_askAll 93 = .ok (.getfield 29, 3) := by decide +kernel
theorem dX5_askAll_96 : decode cX5_askAll 96 = .ok (.getfield 86, 3) := by decide +kernel
theorem dX5_askAll_99 : decode cX5_askAll 99 = .ok (.iload_n 3, 1) := by decide +kernel
theorem dX5_askAll_100 : decode cX5_askAll 100 = .ok (.iaload, 1) := by decide +kernel
theorem dX5_askAll_101 : decode cX5_askAll 101 = .ok (.invokevirtual 58, 3) := by decide +kernel
theorem dX5_askAll_104 : decode cX5_askAll 104 = .ok (.goto 36, 3) := by decide +kernel
theorem dX5_askAll_107 : decode cX5_askAll 107 = .ok (.iload_n 2, 1) := by decide +kernel
theorem dX5_askAll_108 : decode cX5_askAll 108 = .ok (.aload_n 0, 1) := by decide +kernel
theorem dX5_askAll_109 : decode cX5_askAll 109 = .ok (.getfield 10, 3) := by decide +kernel
theorem dX5_askAll_112 : decode cX5_askAll 112 = .ok (.iconst 3, 1) := by decide +kernel
theorem dX5_askAll_113 : decode cX5_askAll 113 = .ok (.aload_n 0, 1) := by decide +kernel
theorem dX5_askAll_114 : decode cX5_askAll 114 = .ok (.getfield 29, 3) := by decide +kernel
theorem dX5_askAll_117 : decode cX5_askAll 117 = .ok (.getfield 84, 3) := by decide +kernel
theorem dX5_askAll_120 : decode cX5_askAll 120 = .ok (.iload_n 3, 1) := by decide +kernel
theorem dX5_askAll_121 : decode cX5_askAll 121 = .ok (.iaload, 1) := by decide +kernel
theorem dX5_askAll_122 : decode cX5_askAll 122 = .ok (.imul, 1) := by decide +kernel
theorem dX5_askAll_123 : decode cX5_askAll 123 = .ok (.iload 4, 2) := by decide +kernel
theorem dX5_askAll_125 : decode cX5_askAll 125 = .ok (.iadd, 1) := by decide +kernel
theorem dX5_askAll_126 : decode cX5_askAll 126 = .ok (.aload_n 0, 1) := by decide +kernel
theorem dX5_askAll_127 : decode cX5_askAll 127 = .ok (.getfield 29, 3) := by decide +kernel
theorem dX5_askAll_130 : decode cX5_askAll 130 = .ok (.getfield 86, 3) := by decide +kernel
theorem dX5_askAll_133 : decode cX5_askAll 133 = .ok (.iload_n 3, 1) := by decide +kernel
theorem dX5_askAll_134 : decode cX5_askAll 134 = .ok (.iaload, 1) := by decide +kernel
theorem dX5_askAll_135 : decode cX5_askAll 135 = .ok (.invokevirtual 69, 3) := by decide +kernel
theorem dX5_askAll_138 : decode cX5_askAll 138 = .ok (.iadd, 1) := by decide +kernel
theorem dX5_askAll_139 : decode cX5_askAll 139 = .ok (.istore_n 2, 1) := by decide +kernel
theorem dX5_askAll_140 : decode cX5_askAll 140 = .ok (.iinc 3 1, 3) := by decide +kernel
theorem dX5_askAll_143 : decode cX5_askAll 143 = .ok (.goto (-109), 3) := by decide +kernel
theorem dX5_askAll_146 : decode cX5_askAll 146 = .ok (.iload_n 2, 1) := by decide +kernel
theorem dX5_askAll_147 : decode cX5_askAll 147 = .ok (.ireturn, 1) := by decide +kernel
theorem dX5_pin_0 : decode cX5_pin 0 = .ok (.aload_n 0, 1) := by decide +kernel
theorem dX5_pin_1 : decode cX5_pin 1 = .ok (.iload_n 1, 1) := by decide +kernel
theorem dX5_pin_2 : decode cX5_pin 2 = .ok (.invokevirtual 89, 3) := by decide +kernel
theorem dX5_pin_5 : decode cX5_pin 5 = .ok (.ifCond .ne 5, 3) := by decide +kernel
theorem dX5_pin_8 : decode cX5_pin 8 = .ok (.iconst (-1), 1) := by decide +kernel
theorem dX5_pin_9 : decode cX5_pin 9 = .ok (.ireturn, 1) := by decide +kernel
theorem dX5_pin_10 : decode cX5_pin 10 = .ok (.aload_n 0, 1) := by decide +kernel
theorem dX5_pin_11 : decode cX5_pin 11 = .ok (.getfield 10, 3) := by decide +kernel
theorem dX5_pin_14 : decode cX5_pin 14 = .ok (.getfield 92, 3) := by decide +kernel
theorem dX5_pin_17 : decode cX5_pin 17 = .ok (.iload_n 1, 1) := by decide +kernel
theorem dX5_pin_18 : decode cX5_pin 18 = .ok (.aaload, 1) := by decide +kernel
theorem dX5_pin_19 : decode cX5_pin 19 = .ok (.getfield 96, 3) := by decide +kernel
theorem dX5_pin_22 : decode cX5_pin 22 = .ok (.iload_n 2, 1) := by decide +kernel
theorem dX5_pin_23 : decode cX5_pin 23 = .ok (.if_icmp .ne 6, 3) := by decide +kernel
theorem dX5_pin_26 : decode cX5_pin 26 = .ok (.bipush (-4), 2) := by decide +kernel
theorem dX5_pin_28 : decode cX5_pin 28 = .ok (.ireturn, 1) := by decide +kernel
theorem dX5_pin_29 : decode cX5_pin 29 = .ok (.aload_n 0, 1) := by decide +kernel
theorem dX5_pin_30 : decode cX5_pin 30 = .ok (.getfield 22, 3) := by decide +kernel
theorem dX5_pin_33 : decode cX5_pin 33 = .ok (.aload_n 0, 1) := by decide +kernel
theorem dX5_pin_34 : decode cX5_pin 34 = .ok (.getfield 10, 3) := by decide +kernel
theorem dX5_pin_37 : decode cX5_pin 37 = .ok (.invokevirtual 54, 3) := by decide +kernel
theorem dX5_pin_40 : decode cX5_pin 40 = .ok (.aload_n 0, 1) := by decide +kernel
theorem dX5_pin_41 : decode cX5_pin 41 = .ok (.getfield 10, 3) := by decide +kernel
theorem dX5_pin_44 : decode cX5_pin 44 = .ok (.getfield 92, 3) := by decide +kernel
theorem dX5_pin_47 : decode cX5_pin 47 = .ok (.iload_n 1, 1) := by decide +kernel
theorem dX5_pin_48 : decode cX5_pin 48 = .ok (.aaload, 1) := by decide +kernel
theorem dX5_pin_49 : decode cX5_pin 49 = .ok (.iload_n 2, 1) := by decide +kernel
theorem dX5_pin_50 : decode cX5_pin 50 = .ok (.putfield 96, 3) := by decide +kernel
theorem dX5_pin_53 : decode cX5_pin 53 = .ok (.aload_n 0, 1) := by decide +kernel
theorem dX5_pin_54 : decode cX5_pin 54 = .ok (.getfield 10, 3) := by decide +kernel
theorem dX5_pin_57 : decode cX5_pin 57 = .ok (.invokevirtual 101, 3) := by decide +kernel
theorem dX5_pin_60 : decode cX5_pin 60 = .ok (.ireturn, 1) := by decide +kernel
theorem dX5_throwOut_0 : decode cX5_throwOut 0 = .ok (.aload_n 0, 1) := by decide +kernel
theorem dX5_throwOut_1 : decode cX5_throwOut 1 = .ok (.iload_n 1, 1) := by decide +kernel
theorem dX5_throwOut_2 : decode cX5_throwOut 2 = .ok (.invokevirtual 89, 3) := by decide +kernel
theorem dX5_throwOut_5 : decode cX5_throwOut 5 = .ok (.ifCond .ne 5, 3) := by decide +kernel
theorem dX5_throwOut_8 : decode cX5_throwOut 8 = .ok (.iconst (-1), 1) := by decide +kernel
theorem dX5_throwOut_9 : decode cX5_throwOut 9 = .ok (.ireturn, 1) := by decide +kernel
theorem dX5_throwOut_10 : decode cX5_throwOut 10 = .ok (.aload_n 0, 1) := by decide +kernel
theorem dX5_throwOut_11 : decode cX5_throwOut 11 = .ok (.getfield 22, 3) := by decide +kernel
theorem dX5_throwOut_14 : decode cX5_throwOut 14 = .ok (.aload_n 0, 1) := by decide +kernel
theorem dX5_throwOut_15 : decode cX5_throwOut 15 = .ok (.getfield 10, 3) := by decide +kernel
theorem dX5_throwOut_18 : decode cX5_throwOut 18 = .ok (.invokevirtual 54, 3) := by decide +kernel
theorem dX5_throwOut_21 : decode cX5_throwOut 21 = .ok (.aload_n 0, 1) := by decide +kernel
theorem dX5_throwOut_22 : decode cX5_throwOut 22 = .ok (.getfield 10, 3) := by decide +kernel
theorem dX5_throwOut_25 : decode cX5_throwOut 25 = .ok (.getfield 92, 3) := by decide +kernel
theorem dX5_throwOut_28 : decode cX5_throwOut 28 = .ok (.iload_n 1, 1) := by decide +kernel
theorem dX5_throwOut_29 : decode cX5_throwOut 29 = .ok (.aaload, 1) := by decide +kernel
theorem dX5_throwOut_30 : decode cX5_throwOut 30 = .ok (.iconst 0, 1) := by decide +kernel
theorem dX5_throwOut_31 : decode cX5_throwOut 31 = .ok (.putfield 104, 3) := by decide +kernel
theorem dX5_throwOut_34 : decode cX5_throwOut 34 = .ok (.aload_n 0, 1) := by decide +kernel
theorem dX5_throwOut_35 : decode cX5_throwOut 35 = .ok (.getfield 10, 3) := by decide +kernel
theorem dX5_throwOut_38 : decode cX5_throwOut 38 = .ok (.invokevirtual 107, 3) := by decide +kernel
theorem dX5_throwOut_41 : decode cX5_throwOut 41 = .ok (.ireturn, 1) := by decide +kernel
theorem dX5_make_0 : decode cX5_make 0 = .ok (.iload_n 1, 1) := by decide +kernel
theorem dX5_make_1 : decode cX5_make 1 = .ok (.invokestatic 62, 3) := by decide +kernel
theorem dX5_make_4 : decode cX5_make 4 = .ok (.ifCond .ne 5, 3) := by decide +kernel
theorem dX5_make_7 : decode cX5_make 7 = .ok (.iconst (-1), 1) := by decide +kernel
theorem dX5_make_8 : decode cX5_make 8 = .ok (.ireturn, 1) := by decide +kernel
theorem dX5_make_9 : decode cX5_make 9 = .ok (.iload_n 2, 1) := by decide +kernel
theorem dX5_make_10 : decode cX5_make 10 = .ok (.invokestatic 110, 3) := by decide +kernel
theorem dX5_make_13 : decode cX5_make 13 = .ok (.ifCond .eq 13, 3) := by decide +kernel
theorem dX5_make_16 : decode cX5_make 16 = .ok (.iload_n 1, 1) := by decide +kernel
theorem dX5_make_17 : decode cX5_make 17 = .ok (.iconst 3, 1) := by decide +kernel
theorem dX5_make_18 : decode cX5_make 18 = .ok (.irem, 1) := by decide +kernel
theorem dX5_make_19 : decode cX5_make 19 = .ok (.iload_n 3, 1) := by decide +kernel
theorem dX5_make_20 : decode cX5_make 20 = .ok (.invokestatic 65, 3) := by decide +kernel
theorem dX5_make_23 : decode cX5_make 23 = .ok (.ifCond .ne 6, 3) := by decide +kernel
theorem dX5_make_26 : decode cX5_make 26 = .ok (.bipush (-2), 2) := by decide +kernel
theorem dX5_make_28 : decode cX5_make 28 = .ok (.ireturn, 1) := by decide +kernel
theorem dX5_make_29 : decode cX5_make 29 = .ok (.iload 4, 2) := by decide +kernel
theorem dX5_make_31 : decode cX5_make 31 = .ok (.ifCond .lt 25, 3) := by decide +kernel
theorem dX5_make_34 : decode cX5_make 34 = .ok (.iload 4, 2) := by decide +kernel
theorem dX5_make_36 : decode cX5_make 36 = .ok (.sipush 9999, 3) := by decide +kernel
theorem dX5_make_39 : decode cX5_make 39 = .ok (.if_icmp .gt 17, 3) := by decide +kernel
theorem dX5_make_42 : decode cX5_make 42 = .ok (.iload 5, 2) := by decide +kernel
theorem dX5_make_44 : decode cX5_make 44 = .ok (.iload 4, 2) := by decide +kernel
theorem dX5_make_46 : decode cX5_make 46 = .ok (.if_icmp .lt 10, 3) := by decide +kernel
theorem dX5_make_49 : decode cX5_make 49 = .ok (.iload 5, 2) := by decide +kernel
theorem dX5_make_51 : decode cX5_make 51 = .ok (.ldc 113, 2) := by decide +kernel
theorem dX5_make_53 : decode cX5_make 53 = .ok (.if_icmp .le 6, 3) := by decide +kernel
theorem dX5_make_56 : decode cX5_make 56 = .ok (.bipush (-2), 2) := by decide +kernel
theorem dX5_make_58 : decode cX5_make 58 = .ok (.ireturn, 1) := by decide +kernel
theorem dX5_make_59 : decode cX5_make 59 = .ok (.aload_n 0, 1) := by decide +kernel
theorem dX5_make_60 : decode cX5_make 60 = .ok (.getfield 10, 3) := by decide +kernel
theorem dX5_make_63 : decode cX5_make 63 = .ok (.iload_n 1, 1) := by decide +kernel
theorem dX5_make_64 : decode cX5_make 64 = .ok (.invokevirtual 114, 3) := by decide +kernel
theorem dX5_make_67 : decode cX5_make 67 = .ok (.ifCond .ne 6, 3) := by decide +kernel
theorem dX5_make_70 : decode cX5_make 70 = .ok (.bipush (-4), 2) := by decide +kernel
theorem dX5_make_72 : decode cX5_make 72 = .ok (.ireturn, 1) := by decide +kernel
theorem dX5_make_73 : decode cX5_make 73 = .ok (.aload_n 0, 1) := by decide +kernel
theorem dX5_make_74 : decode cX5_make 74 = .ok (.getfield 22, 3) := by decide +kernel
theorem dX5_make_77 : decode cX5_make 77 = .ok (.aload_n 0, 1) := by decide +kernel
theorem dX5_make_78 : decode cX5_make 78 = .ok (.getfield 10, 3) := by decide +kernel
theorem dX5_make_81 : decode cX5_make 81 = .ok (.invokevirtual 54, 3) := by decide +kernel
theorem dX5_make_84 : decode cX5_make 84 = .ok (.aload_n 0, 1) := by decide +kernel
theorem dX5_make_85 : decode cX5_make 85 = .ok (.getfield 10, 3) := by decide +kernel
theorem dX5_make_88 : decode cX5_make 88 = .ok (.iload_n 1, 1) := by decide +kernel
theorem dX5_make_89 : decode cX5_make 89 = .ok (.invokevirtual 117, 3) := by decide +kernel
theorem dX5_make_92 : decode cX5_make 92 = .ok (.aload_n 0, 1) := by decide +kernel
theorem dX5_make_93 : decode cX5_make 93 = .ok (.getfield 10, 3) := by decide +kernel
theorem dX5_make_96 : decode cX5_make 96 = .ok (.iload_n 1, 1) := by decide +kernel
theorem dX5_make_97 : decode cX5_make 97 = .ok (.iload_n 2, 1) := by decide +kernel
theorem dX5_make_98 : decode cX5_make 98 = .ok (.iload_n 3, 1) := by decide +kernel
theorem dX5_make_99 : decode cX5_make 99 = .ok (.iload 4, 2) := by decide +kernel
theorem dX5_make_101 : decode cX5_make 101 = .ok (.iload 5, 2) := by decide +kernel
theorem dX5_make_103 : decode cX5_make 103 = .ok (.invokevirtual 121, 3) := by decide +kernel
theorem dX5_make_106 : decode cX5_make 106 = .ok (.aload_n 0, 1) := by decide +kernel
theorem dX5_make_107 : decode cX5_make 107 = .ok (.getfield 10, 3) := by decide +kernel
theorem dX5_make_110 : decode cX5_make 110 = .ok (.invokevirtual 107, 3) := by decide +kernel
theorem dX5_make_113 : decode cX5_make 113 = .ok (.ireturn, 1) := by decide +kernel
theorem dX5_set_0 : decode cX5_set 0 = .ok (.iload_n 1, 1) := by decide +kernel
theorem dX5_set_1 : decode cX5_set 1 = .ok (.ifCond .lt 8, 3) := by decide +kernel
theorem dX5_set_4 : decode cX5_set 4 = .ok (.iload_n 1, 1) := by decide +kernel
theorem dX5_set_5 : decode cX5_set 5 = .ok (.iconst 5, 1) := by decide +kernel
theorem dX5_set_6 : decode cX5_set 6 = .ok (.if_icmp .lt 5, 3) := by decide +kernel
theorem dX5_set_9 : decode cX5_set 9 = .ok (.iconst (-1), 1) := by decide +kernel
theorem dX5_set_10 : decode cX5_set 10 = .ok (.ireturn, 1) := by decide +kernel
theorem dX5_set_11 : decode cX5_set 11 = .ok (.iload_n 2, 1) := by decide +kernel
theorem dX5_set_12 : decode cX5_set 12 = .ok (.getstatic 125, 3) := by decide +kernel
theorem dX5_set_15 : decode cX5_set 15 = .ok (.iload_n 1, 1) := by decide +kernel
theorem dX5_set_16 : decode cX5_set 16 = .ok (.iaload, 1) := by decide +kernel
theorem dX5_set_17 : decode cX5_set 17 = .ok (.if_icmp .lt 12, 3) := by decide +kernel
theorem dX5_set_20 : decode cX5_set 20 = .ok (.iload_n 2, 1) := by decide +kernel
theorem dX5_set_21 : decode cX5_set 21 = .ok (.getstatic 128, 3) := by decide +kernel
theorem dX5_set_24 : decode cX5_set 24 = .ok (.iload_n 1, 1) := by decide +kernel
theorem dX5_set_25 : decode cX5_set 25 = .ok (.iaload, 1) := by decide +kernel
theorem dX5_set_26 : decode cX5_set 26 = .ok (.if_icmp .le 6, 3) := by decide +kernel
theorem dX5_set_29 : decode cX5_set 29 = .ok (.bipush (-2), 2) := by decide +kernel
theorem dX5_set_31 : decode cX5_set 31 = .ok (.ireturn, 1) := by decide +kernel
theorem dX5_set_32 : decode cX5_set 32 = .ok (.aload_n 0, 1) := by decide +kernel
theorem dX5_set_33 : decode cX5_set 33 = .ok (.getfield 10, 3) := by decide +kernel
theorem dX5_set_36 : decode cX5_set 36 = .ok (.getfield 131, 3) := by decide +kernel
theorem dX5_set_39 : decode cX5_set 39 = .ok (.iload_n 1, 1) := by decide +kernel
theorem dX5_set_40 : decode cX5_set 40 = .ok (.iaload, 1) := by decide +kernel
theorem dX5_set_41 : decode cX5_set 41 = .ok (.istore_n 3, 1) := by decide +kernel
theorem dX5_set_42 : decode cX5_set 42 = .ok (.iload_n 3, 1) := by decide +kernel
theorem dX5_set_43 : decode cX5_set 43 = .ok (.iload_n 2, 1) := by decide +kernel
theorem dX5_set_44 : decode cX5_set 44 = .ok (.if_icmp .ne 6, 3) := by decide +kernel
theorem dX5_set_47 : decode cX5_set 47 = .ok (.bipush (-4), 2) := by decide +kernel
theorem dX5_set_49 : decode cX5_set 49 = .ok (.ireturn, 1) := by decide +kernel
theorem dX5_set_50 : decode cX5_set 50 = .ok (.aload_n 0, 1) := by decide +kernel
theorem dX5_set_51 : decode cX5_set 51 = .ok (.getfield 22, 3) := by decide +kernel
theorem dX5_set_54 : decode cX5_set 54 = .ok (.aload_n 0, 1) := by decide +kernel
theorem dX5_set_55 : decode cX5_set 55 = .ok (.getfield 10, 3) := by decide +kernel
theorem dX5_set_58 : decode cX5_set 58 = .ok (.invokevirtual 54, 3) := by decide +kernel
theorem dX5_set_61 : decode cX5_set 61 = .ok (.aload_n 0, 1) := by decide +kernel
theorem dX5_set_62 : decode cX5_set 62 = .ok (.getfield 10, 3) := by decide +kernel
theorem dX5_set_65 : decode cX5_set 65 = .ok (.getfield 131, 3) := by decide +kernel
theorem dX5_set_68 : decode cX5_set 68 = .ok (.iload_n 1, 1) := by decide +kernel
theorem dX5_set_69 : decode cX5_set 69 = .ok (.iload_n 2, 1) := by decide +kernel
theorem dX5_set_70 : decode cX5_set 70 = .ok (.iastore, 1) := by decide +kernel
theorem dX5_set_71 : decode cX5_set 71 = .ok (.iload_n 1, 1) := by decide +kernel
theorem dX5_set_72 : decode cX5_set 72 = .ok (.iconst 3, 1) := by decide +kernel
theorem dX5_set_73 : decode cX5_set 73 = .ok (.if_icmp .ne 11, 3) := by decide +kernel
theorem dX5_set_76 : decode cX5_set 76 = .ok (.aload_n 0, 1) := by decide +kernel
theorem dX5_set_77 : decode cX5_set 77 = .ok (.getfield 10, 3) := by decide +kernel
theorem dX5_set_80 : decode cX5_set 80 = .ok (.iload_n 2, 1) := by decide +kernel
theorem dX5_set_81 : decode cX5_set 81 = .ok (.invokevirtual 134, 3) := by decide +kernel
theorem dX5_set_84 : decode cX5_set 84 = .ok (.iload_n 3, 1) := by decide +kernel
theorem dX5_set_85 : decode cX5_set 85 = .ok (.ireturn, 1) := by decide +kernel
theorem dX5_type_0 : decode cX5_type 0 = .ok (.aload_n 0, 1) := by decide +kernel
theorem dX5_type_1 : decode cX5_type 1 = .ok (.getfield 29, 3) := by decide +kernel
theorem dX5_type_4 : decode cX5_type 4 = .ok (.getfield 137, 3) := by decide +kernel
theorem dX5_type_7 : decode cX5_type 7 = .ok (.bipush 80, 2) := by decide +kernel
theorem dX5_type_9 : decode cX5_type 9 = .ok (.if_icmp .lt 6, 3) := by decide +kernel
theorem dX5_type_12 : decode cX5_type 12 = .ok (.bipush (-3), 2) := by decide +kernel
theorem dX5_type_14 : decode cX5_type 14 = .ok (.ireturn, 1) := by decide +kernel
theorem dX5_type_15 : decode cX5_type 15 = .ok (.aload_n 0, 1) := by decide +kernel
theorem dX5_type_16 : decode cX5_type 16 = .ok (.getfield 29, 3) := by decide +kernel
theorem dX5_type_19 : decode cX5_type 19 = .ok (.getfield 140, 3) := by decide +kernel
theorem dX5_type_22 : decode cX5_type 22 = .ok (.aload_n 0, 1) := by decide +kernel
theorem dX5_type_23 : decode cX5_type 23 = .ok (.getfield 29, 3) := by decide +kernel
theorem dX5_type_26 : decode cX5_type 26 = .ok (.getfield 137, 3) := by decide +kernel
theorem dX5_type_29 : decode cX5_type 29 = .ok (.iload_n 1, 1) := by decide +kernel
theorem dX5_type_30 : decode cX5_type 30 = .ok (.castore, 1) := by decide +kernel
theorem dX5_type_31 : decode cX5_type 31 = .ok (.aload_n 0, 1) := by decide +kernel
theorem dX5_type_32 : decode cX5_type 32 = .ok (.getfield 29, 3) := by decide +kernel
theorem dX5_type_35 : decode cX5_type 35 = .ok (.dup, 1) := by decide +kernel
theorem dX5_type_36 : decode cX5_type 36 = .ok (.getfield 137, 3) := by decide +kernel
theorem dX5_type_39 : decode cX5_type 39 = .ok (.iconst 1, 1) := by decide +kernel
theorem dX5_type_40 : decode cX5_type 40 = .ok (.iadd, 1) := by decide +kernel
theorem dX5_type_41 : decode cX5_type 41 = .ok (.putfield 137, 3) := by decide +kernel
theorem dX5_type_44 : decode cX5_type 44 = .ok (.aload_n 0, 1) := by decide +kernel
theorem dX5_type_45 : decode cX5_type 45 = .ok (.getfield 29, 3) := by decide +kernel
theorem dX5_type_48 : decode cX5_type 48 = .ok (.getfield 137, 3) := by decide +kernel
theorem dX5_type_51 : decode cX5_type 51 = .ok (.ireturn, 1) := by decide +kernel
theorem dX5_clearText_0 : decode cX5_clearText 0 = .ok (.aload_n 0, 1) := by decide +kernel
theorem dX5_clearText_1 : decode cX5_clearText 1 = .ok (.getfield 29, 3) := by decide +kernel
theorem dX5_clearText_4 : decode cX5_clearText 4 = .ok (.getfield 137, 3) := by decide +kernel
theorem dX5_clearText_7 : decode cX5_clearText 7 = .ok (.istore_n 1, 1) := by decide +kernel
theorem dX5_clearText_8 : decode cX5_clearText 8 = .ok (.aload_n 0, 1) := by decide +kernel
theorem dX5_clearText_9 : decode cX5_clearText 9 = .ok (.getfield 29, 3) := by decide +kernel
theorem dX5_clearText_12 : decode cX5_clearText 12 = .ok (.iconst 0, 1) := by decide +kernel
theorem dX5_clearText_13 : decode cX5_clearText 13 = .ok (.putfield 137, 3) := by decide +kernel
theorem dX5_clearText_16 : decode cX5_clearText 16 = .ok (.iload_n 1, 1) := by decide +kernel
theorem dX5_clearText_17 : decode cX5_clearText 17 = .ok (.ireturn, 1) := by decide +kernel
theorem dX5_undo_0 : decode cX5_undo 0 = .ok (.aload_n 0, 1) := by decide +kernel
theorem dX5_undo_1 : decode cX5_undo 1 = .ok (.getfield 22, 3) := by decide +kernel
theorem dX5_undo_4 : decode cX5_undo 4 = .ok (.getfield 144, 3) := by decide +kernel
theorem dX5_undo_7 : decode cX5_undo 7 = .ok (.ifCond .ne 6, 3) := by decide +kernel
theorem dX5_undo_10 : decode cX5_undo 10 = .ok (.bipush (-4), 2) := by decide +kernel
theorem dX5_undo_12 : decode cX5_undo 12 = .ok (.ireturn, 1) := by decide +kernel
theorem dX5_undo_13 : decode cX5_undo 13 = .ok (.aload_n 0, 1) := by decide +kernel
theorem dX5_undo_14 : decode cX5_undo 14 = .ok (.getfield 22, 3) := by decide +kernel
theorem dX5_undo_17 : decode cX5_undo 17 = .ok (.aload_n 0, 1) := by decide +kernel
theorem dX5_undo_18 : decode cX5_undo 18 = .ok (.getfield 10, 3) := by decide +kernel
theorem dX5_undo_21 : decode cX5_undo 21 = .ok (.invokevirtual 147, 3) := by decide +kernel
theorem dX5_undo_24 : decode cX5_undo 24 = .ok (.aload_n 0, 1) := by decide +kernel
theorem dX5_undo_25 : decode cX5_undo 25 = .ok (.getfield 22, 3) := by decide +kernel
theorem dX5_undo_28 : decode cX5_undo 28 = .ok (.getfield 144, 3) := by decide +kernel
theorem dX5_undo_31 : decode cX5_undo 31 = .ok (.ireturn, 1) := by decide +kernel
theorem dX5_keep_0 : decode cX5_keep 0 = .ok (.aload_n 0, 1) := by decide +kernel
theorem dX5_keep_1 : decode cX5_keep 1 = .ok (.getfield 16, 3) := by decide +kernel
theorem dX5_keep_4 : decode cX5_keep 4 = .ok (.aload_n 0, 1) := by decide +kernel
theorem dX5_keep_5 : decode cX5_keep 5 = .ok (.getfield 10, 3) := by decide +kernel
theorem dX5_keep_8 : decode cX5_keep 8 = .ok (.invokevirtual 150, 3) := by decide +kernel
theorem dX5_keep_11 : decode cX5_keep 11 = .ok (.aload_n 0, 1) := by decide +kernel
theorem dX5_keep_12 : decode cX5_keep 12 = .ok (.iconst 1, 1) := by decide +kernel
theorem dX5_keep_13 : decode cX5_keep 13 = .ok (.putfield 33, 3) := by decide +kernel
theorem dX5_keep_16 : decode cX5_keep 16 = .ok (.aload_n 0, 1) := by decide +kernel
theorem dX5_keep_17 : decode cX5_keep 17 = .ok (.getfield 10, 3) := by decide +kernel
theorem dX5_keep_20 : decode cX5_keep 20 = .ok (.invokevirtual 107, 3) := by decide +kernel
theorem dX5_keep_23 : decode cX5_keep 23 = .ok (.ireturn, 1) := by decide +kernel
theorem dX5_restore_0 : decode cX5_restore 0 = .ok (.aload_n 0, 1) := by decide +kernel
theorem dX5_restore_1 : decode cX5_restore 1 = .ok (.getfield 33, 3) := by decide +kernel
theorem dX5_restore_4 : decode cX5_restore 4 = .ok (.ifCond .ne 6, 3) := by decide +kernel
theorem dX5_restore_7 : decode cX5_restore 7 = .ok (.bipush (-4), 2) := by decide +kernel
theorem dX5_restore_9 : decode cX5_restore 9 = .ok (.ireturn, 1) := by decide +kernel
theorem dX5_restore_10 : decode cX5_restore 10 = .ok (.aload_n 0, 1) := by decide +kernel
theorem dX5_restore_11 : decode cX5_restore 11 = .ok (.getfield 22, 3) := by decide +kernel
theorem dX5_restore_14 : decode cX5_restore 14 = .ok (.aload_n 0, 1) := by decide +kernel
theorem dX5_restore_15 : decode cX5_restore 15 = .ok (.getfield 10, 3) := by decide +kernel
theorem dX5_restore_18 : decode cX5_restore 18 = .ok (.invokevirtual 54, 3) := by decide +kernel
theorem dX5_restore_21 : decode cX5_restore 21 = .ok (.aload_n 0, 1) := by decide +kernel
theorem dX5_restore_22 : decode cX5_restore 22 = .ok (.getfield 10, 3) := by decide +kernel
theorem dX5_restore_25 : decode cX5_restore 25 = .ok (.aload_n 0, 1) := by decide +kernel
theorem dX5_restore_26 : decode cX5_restore 26 = .ok (.getfield 16, 3) := by decide +kernel
theorem dX5_restore_29 : decode cX5_restore 29 = .ok (.invokevirtual 150, 3) := by decide +kernel
theorem dX5_restore_32 : decode cX5_restore 32 = .ok (.aload_n 0, 1) := by decide +kernel
theorem dX5_restore_33 : decode cX5_restore 33 = .ok (.getfield 10, 3) := by decide +kernel
theorem dX5_restore_36 : decode cX5_restore 36 = .ok (.invokevirtual 107, 3) := by decide +kernel
theorem dX5_restore_39 : decode cX5_restore 39 = .ok (.ireturn, 1) := by decide +kernel
theorem dX5_cost_0 : decode cX5_cost 0 = .ok (.iload_n 1, 1) := by decide +kernel
theorem dX5_cost_1 : decode cX5_cost 1 = .ok (.invokestatic 62, 3) := by decide +kernel
theorem dX5_cost_4 : decode cX5_cost 4 = .ok (.ifCond .ne 5, 3) := by decide +kernel
theorem dX5_cost_7 : decode cX5_cost 7 = .ok (.iconst (-1), 1) := by decide +kernel
theorem dX5_cost_8 : decode cX5_cost 8 = .ok (.ireturn, 1) := by decide +kernel
theorem dX5_cost_9 : decode cX5_cost 9 = .ok (.iload_n 2, 1) := by decide +kernel
theorem dX5_cost_10 : decode cX5_cost 10 = .ok (.invokestatic 110, 3) := by decide +kernel
theorem dX5_cost_13 : decode cX5_cost 13 = .ok (.ifCond .eq 13, 3) := by decide +kernel
theorem dX5_cost_16 : decode cX5_cost 16 = .ok (.iload_n 1, 1) := by decide +kernel
theorem dX5_cost_17 : decode cX5_cost 17 = .ok (.iconst 3, 1) := by decide +kernel
theorem dX5_cost_18 : decode cX5_cost 18 = .ok (.irem, 1) := by decide +kernel
theorem dX5_cost_19 : decode cX5_cost 19 = .ok (.iload_n 3, 1) := by decide +kernel
theorem dX5_cost_20 : decode cX5_cost 20 = .ok (.invokestatic 65, 3) := by decide +kernel
theorem dX5_cost_23 : decode cX5_cost 23 = .ok (.ifCond .ne 6, 3) := by decide +kernel
theorem dX5_cost_26 : decode cX5_cost 26 = .ok (.bipush (-2), 2) := by decide +kernel
theorem dX5_cost_28 : decode cX5_cost 28 = .ok (.ireturn, 1) := by decide +kernel
theorem dX5_cost_29 : decode cX5_cost 29 = .ok (.aload_n 0, 1) := by decide +kernel
theorem dX5_cost_30 : decode cX5_cost 30 = .ok (.getfield 10, 3) := by decide +kernel
theorem dX5_cost_33 : decode cX5_cost 33 = .ok (.iload_n 1, 1) := by decide +kernel
theorem dX5_cost_34 : decode cX5_cost 34 = .ok (.iload_n 2, 1) := by decide +kernel
theorem dX5_cost_35 : decode cX5_cost 35 = .ok (.iload_n 3, 1) := by decide +kernel
theorem dX5_cost_36 : decode cX5_cost 36 = .ok (.invokevirtual 153, 3) := by decide +kernel
theorem dX5_cost_39 : decode cX5_cost 39 = .ok (.ireturn, 1) := by decide +kernel
theorem dX5_cheapest_0 : decode cX5_cheapest 0 = .ok (.iload_n 1, 1) := by decide +kernel
theorem dX5_cheapest_1 : decode cX5_cheapest 1 = .ok (.invokestatic 62, 3) := by decide +kernel
theorem dX5_cheapest_4 : decode cX5_cheapest 4 = .ok (.ifCond .ne 5, 3) := by decide +kernel
theorem dX5_cheapest_7 : decode cX5_cheapest 7 = .ok (.iconst (-1), 1) := by decide +kernel
theorem dX5_cheapest_8 : decode cX5_cheapest 8 = .ok (.ireturn, 1) := by decide +kernel
theorem dX5_cheapest_9 : decode cX5_cheapest 9 = .ok (.iload_n 1, 1) := by decide +kernel
theorem dX5_cheapest_10 : decode cX5_cheapest 10 = .ok (.iconst 3, 1) := by decide +kernel
theorem dX5_cheapest_11 : decode cX5_cheapest 11 = .ok (.irem, 1) := by decide +kernel
theorem dX5_cheapest_12 : decode cX5_cheapest 12 = .ok (.iload_n 2, 1) := by decide +kernel
theorem dX5_cheapest_13 : decode cX5_cheapest 13 = .ok (.invokestatic 65, 3) := by decide +kernel
theorem dX5_cheapest_16 : decode cX5_cheapest 16 = .ok (.ifCond .ne 6, 3) := by decide +kernel
theorem dX5_cheapest_19 : decode cX5_cheapest 19 = .ok (.bipush (-2), 2) := by decide +kernel
theorem dX5_cheapest_21 : decode cX5_cheapest 21 = .ok (.ireturn, 1) := by decide +kernel
theorem dX5_cheapest_22 : decode cX5_cheapest 22 = .ok (.aload_n 0, 1) := by decide +kernel
theorem dX5_cheapest_23 : decode cX5_cheapest 23 = .ok (.getfield 10, 3) := by decide +kernel
theorem dX5_cheapest_26 : decode cX5_cheapest 26 = .ok (.iload_n 1, 1) := by decide +kernel
theorem dX5_cheapest_27 : decode cX5_cheapest 27 = .ok (.iload_n 2, 1) := by decide +kernel
theorem dX5_cheapest_28 : decode cX5_cheapest 28 = .ok (.invokevirtual 157, 3) := by decide +kernel
theorem dX5_cheapest_31 : decode cX5_cheapest 31 = .ok (.ireturn, 1) := by decide +kernel
theorem dX5_plan_0 : decode cX5_plan 0 = .ok (.aload_n 0, 1) := by decide +kernel
theorem dX5_plan_1 : decode cX5_plan 1 = .ok (.iload_n 1, 1) := by decide +kernel
theorem dX5_plan_2 : decode cX5_plan 2 = .ok (.invokevirtual 89, 3) := by decide +kernel
theorem dX5_plan_5 : decode cX5_plan 5 = .ok (.ifCond .ne 5, 3) := by decide +kernel
theorem dX5_plan_8 : decode cX5_plan 8 = .ok (.iconst (-1), 1) := by decide +kernel
theorem dX5_plan_9 : decode cX5_plan 9 = .ok (.ireturn, 1) := by decide +kernel
theorem dX5_plan_10 : decode cX5_plan 10 = .ok (.aload_n 0, 1) := by decide +kernel
theorem dX5_plan_11 : decode cX5_plan 11 = .ok (.getfield 10, 3) := by decide +kernel
theorem dX5_plan_14 : decode cX5_plan 14 = .ok (.getfield 92, 3) := by decide +kernel
theorem dX5_plan_17 : decode cX5_plan 17 = .ok (.iload_n 1, 1) := by decide +kernel
theorem dX5_plan_18 : decode cX5_plan 18 = .ok (.aaload, 1) := by decide +kernel
theorem dX5_plan_19 : decode cX5_plan 19 = .ok (.astore_n 3, 1) := by decide +kernel
theorem dX5_plan_20 : decode cX5_plan 20 = .ok (.iload_n 2, 1) := by decide +kernel
theorem dX5_plan_21 : decode cX5_plan 21 = .ok (.tableswitch 150 0 10 #[59, 64, 69, 74, 79, 84, 97, 114, 127, 132, 145], 59) := by decide +kernel
theorem dX5_plan_80 : decode cX5_plan 80 = .ok (.aload_n 3, 1) := by decide +kernel
theorem dX5_plan_81 : decode cX5_plan 81 = .ok (.getfield 160, 3) := by decide +kernel
theorem dX5_plan_84 : decode cX5_plan 84 = .ok (.ireturn, 1) := by decide +kernel
theorem dX5_plan_85 : decode cX5_plan 85 = .ok (.aload_n 3, 1) := by decide +kernel
theorem dX5_plan_86 : decode cX5_plan 86 = .ok (.getfield 163, 3) := by decide +kernel
theorem dX5_plan_89 : decode cX5_plan 89 = .ok (.ireturn, 1) := by decide +kernel
theorem dX5_plan_90 : decode cX5_plan 90 = .ok (.aload_n 3, 1) := by decide +kernel
theorem dX5_plan_91 : decode cX5_plan 91 = .ok (.getfield 166, 3) := by decide +kernel
theorem dX5_plan_94 : decode cX5_plan 94 = .ok (.ireturn, 1) := by decide +kernel
theorem dX5_plan_95 : decode cX5_plan 95 = .ok (.aload_n 3, 1) := by decide +kernel
theorem dX5_plan_96 : decode cX5_plan 96 = .ok (.getfield 169, 3) := by decide +kernel
theorem dX5_plan_99 : decode cX5_plan 99 = .ok (.ireturn, 1) := by decide +kernel
theorem dX5_plan_100 : decode cX5_plan 100 = .ok (.aload_n 3, 1) := by decide +kernel
theorem dX5_plan_101 : decode cX5_plan 101 = .ok (.getfield 172, 3) := by decide +kernel
theorem dX5_plan_104 : decode cX5_plan 104 = .ok (.ireturn, 1) := by decide +kernel
theorem dX5_plan_105 : decode cX5_plan 105 = .ok (.aload_n 0, 1) := by decide +kernel
theorem dX5_plan_106 : decode cX5_plan 106 = .ok (.getfield 10, 3) := by decide +kernel
theorem dX5_plan_109 : decode cX5_plan 109 = .ok (.getfield 175, 3) := by decide +kernel
theorem dX5_plan_112 : decode cX5_plan 112 = .ok (.aload_n 3, 1) := by decide +kernel
theorem dX5_plan_113 : decode cX5_plan 113 = .ok (.getfield 178, 3) := by decide +kernel
theorem dX5_plan_116 : decode cX5_plan 116 = .ok (.isub, 1) := by decide +kernel
theorem dX5_plan_117 : decode cX5_plan 117 = .ok (.ireturn, 1) := by decide +kernel
theorem dX5_plan_118 : decode cX5_plan 118 = .ok (.aload_n 0, 1) := by decide +kernel
theorem dX5_plan_119 : decode cX5_plan 119 = .ok (.getfield 10, 3) := by decide +kernel
theorem dX5_plan_122 : decode cX5_plan 122 = .ok (.iload_n 1, 1) := by decide +kernel
theorem dX5_plan_123 : decode cX5_plan 123 = .ok (.invokevirtual 181, 3) := by decide +kernel
theorem dX5_plan_126 : decode cX5_plan 126 = .ok (.ifCond .eq 7, 3) := by decide +kernel
theorem dX5_plan_129 : decode cX5_plan 129 = .ok (.iconst 1, 1) := by decide +kernel
theorem dX5_plan_130 : decode cX5_plan 130 = .ok (.goto 4, 3) := by decide +kernel
theorem dX5_plan_133 : decode cX5_plan 133 = .ok (.iconst 0, 1) := by decide +kernel
theorem dX5_plan_134 : decode cX5_plan 134 = .ok (.ireturn, 1) := by decide +kernel
theorem dX5_plan_135 : decode cX5_plan 135 = .ok (.aload_n 3, 1) := by decide +kernel
theorem dX5_plan_136 : decode cX5_plan 136 = .ok (.getfield 96, 3) := by decide +kernel
theorem dX5_plan_139 : decode cX5_plan 139 = .ok (.ifCond .eq 7, 3) := by decide +kernel
theorem dX5_plan_142 : decode cX5_plan 142 = .ok (.iconst 1, 1) := by decide +kernel
theorem dX5_plan_143 : decode cX5_plan 143 = .ok (.goto 4, 3) := by decide +kernel
theorem dX5_plan_146 : decode cX5_plan 146 = .ok (.iconst 0, 1) := by decide +kernel
theorem dX5_plan_147 : decode cX5_plan 147 = .ok (.ireturn, 1) := by decide +kernel
theorem dX5_plan_148 : decode cX5_plan 148 = .ok (.aload_n 3, 1) := by decide +kernel
theorem dX5_plan_149 : decode cX5_plan 149 = .ok (.getfield 184, 3) := by decide +kernel
theorem dX5_plan_152 : decode cX5_plan 152 = .ok (.ireturn, 1) := by decide +kernel
theorem dX5_plan_153 : decode cX5_plan 153 = .ok (.aload_n 0, 1) := by decide +kernel
theorem dX5_plan_154 : decode cX5_plan 154 = .ok (.getfield 10, 3) := by decide +kernel
theorem dX5_plan_157 : decode cX5_plan 157 = .ok (.getfield 175, 3) := by decide +kernel
theorem dX5_plan_160 : decode cX5_plan 160 = .ok (.aload_n 3, 1) := by decide +kernel
theorem dX5_plan_161 : decode cX5_plan 161 = .ok (.getfield 187, 3) := by decide +kernel
theorem dX5_plan_164 : decode cX5_plan 164 = .ok (.isub, 1) := by decide +kernel
theorem dX5_plan_165 : decode cX5_plan 165 = .ok (.ireturn, 1) := by decide +kernel
theorem dX5_plan_166 : decode cX5_plan 166 = .ok (.aload_n 3, 1) := by decide +kernel
theorem dX5_plan_167 : decode cX5_plan 167 = .ok (.getfield 190, 3) := by decide +kernel
theorem dX5_plan_170 : decode cX5_plan 170 = .ok (.ireturn, 1) := by decide +kernel
theorem dX5_plan_171 : decode cX5_plan 171 = .ok (.bipush (-2), 2) := by decide +kernel
theorem dX5_plan_173 : decode cX5_plan 173 = .ok (.ireturn, 1) := by decide +kernel
theorem dX5_reason_0 : decode cX5_reason 0 = .ok (.iload_n 1, 1) := by decide +kernel
theorem dX5_reason_1 : decode cX5_reason 1 = .ok (.invokestatic 62, 3) := by decide +kernel
theorem dX5_reason_4 : decode cX5_reason 4 = .ok (.ifCond .ne 5, 3) := by decide +kernel
theorem dX5_reason_7 : decode cX5_reason 7 = .ok (.iconst (-1), 1) := by decide +kernel
theorem dX5_reason_8 : decode cX5_reason 8 = .ok (.ireturn, 1) := by decide +kernel
theorem dX5_reason_9 : decode cX5_reason 9 = .ok (.iload_n 1, 1) := by decide +kernel
theorem dX5_reason_10 : decode cX5_reason 10 = .ok (.iconst 3, 1) := by decide +kernel
theorem dX5_reason_11 : decode cX5_reason 11 = .ok (.irem, 1) := by decide +kernel
theorem dX5_reason_12 : decode cX5_reason 12 = .ok (.iload_n 2, 1) := by decide +kernel
theorem dX5_reason_13 : decode cX5_reason 13 = .ok (.invokestatic 65, 3) := by decide +kernel
theorem dX5_reason_16 : decode cX5_reason 16 = .ok (.ifCond .ne 6, 3) := by decide +kernel
theorem dX5_reason_19 : decode cX5_reason 19 = .ok (.bipush (-2), 2) := by decide +kernel
theorem dX5_reason_21 : decode cX5_reason 21 = .ok (.ireturn, 1) := by decide +kernel
theorem dX5_reason_22 : decode cX5_reason 22 = .ok (.aload_n 0, 1) := by decide +kernel
theorem dX5_reason_23 : decode cX5_reason 23 = .ok (.getfield 10, 3) := by decide +kernel
theorem dX5_reason_26 : decode cX5_reason 26 = .ok (.iload_n 1, 1) := by decide +kernel
theorem dX5_reason_27 : decode cX5_reason 27 = .ok (.iload_n 2, 1) := by decide +kernel
theorem dX5_reason_28 : decode cX5_reason 28 = .ok (.invokevirtual 191, 3) := by decide +kernel
theorem dX5_reason_31 : decode cX5_reason 31 = .ok (.ireturn, 1) := by decide +kernel
theorem dX5_ifAsked_0 : decode cX5_ifAsked 0 = .ok (.iload_n 1, 1) := by decide +kernel
theorem dX5_ifAsked_1 : decode cX5_ifAsked 1 = .ok (.invokestatic 62, 3) := by decide +kernel
theorem dX5_ifAsked_4 : decode cX5_ifAsked 4 = .ok (.ifCond .ne 5, 3) := by decide +kernel
theorem dX5_ifAsked_7 : decode cX5_ifAsked 7 = .ok (.iconst (-1), 1) := by decide +kernel
theorem dX5_ifAsked_8 : decode cX5_ifAsked 8 = .ok (.ireturn, 1) := by decide +kernel
theorem dX5_ifAsked_9 : decode cX5_ifAsked 9 = .ok (.iload_n 1, 1) := by decide +kernel
theorem dX5_ifAsked_10 : decode cX5_ifAsked 10 = .ok (.iconst 3, 1) := by decide +kernel
theorem dX5_ifAsked_11 : decode cX5_ifAsked 11 = .ok (.irem, 1) := by decide +kernel
theorem dX5_ifAsked_12 : decode cX5_ifAsked 12 = .ok (.iload_n 2, 1) := by decide +kernel
theorem dX5_ifAsked_13 : decode cX5_ifAsked 13 = .ok (.invokestatic 65, 3) := by decide +kernel
theorem dX5_ifAsked_16 : decode cX5_ifAsked 16 = .ok (.ifCond .eq 12, 3) := by decide +kernel
theorem dX5_ifAsked_19 : decode cX5_ifAsked 19 = .ok (.iload_n 3, 1) := by decide +kernel
theorem dX5_ifAsked_20 : decode cX5_ifAsked 20 = .ok (.ifCond .lt 8, 3) := by decide +kernel
theorem dX5_ifAsked_23 : decode cX5_ifAsked 23 = .ok (.iload_n 3, 1) := by decide +kernel
theorem dX5_ifAsked_24 : decode cX5_ifAsked 24 = .ok (.iconst 4, 1) := by decide +kernel
theorem dX5_ifAsked_25 : decode cX5_ifAsked 25 = .ok (.if_icmp .le 6, 3) := by decide +kernel
theorem dX5_ifAsked_28 : decode cX5_ifAsked 28 = .ok (.bipush (-2), 2) := by decide +kernel
theorem dX5_ifAsked_30 : decode cX5_ifAsked 30 = .ok (.ireturn, 1) := by decide +kernel
theorem dX5_ifAsked_31 : decode cX5_ifAsked 31 = .ok (.aload_n 0, 1) := by decide +kernel
theorem dX5_ifAsked_32 : decode cX5_ifAsked 32 = .ok (.getfield 10, 3) := by decide +kernel
theorem dX5_ifAsked_35 : decode cX5_ifAsked 35 = .ok (.iload_n 1, 1) := by decide +kernel
theorem dX5_ifAsked_36 : decode cX5_ifAsked 36 = .ok (.iload_n 2, 1) := by decide +kernel
theorem dX5_ifAsked_37 : decode cX5_ifAsked 37 = .ok (.invokevirtual 191, 3) := by decide +kernel
theorem dX5_ifAsked_40 : decode cX5_ifAsked 40 = .ok (.ifCond .ne 7, 3) := by decide +kernel
theorem dX5_ifAsked_43 : decode cX5_ifAsked 43 = .ok (.iconst 1, 1) := by decide +kernel
theorem dX5_ifAsked_44 : decode cX5_ifAsked 44 = .ok (.goto 4, 3) := by decide +kernel
theorem dX5_ifAsked_47 : decode cX5_ifAsked 47 = .ok (.iconst 0, 1) := by decide +kernel
theorem dX5_ifAsked_48 : decode cX5_ifAsked 48 = .ok (.istore 4, 2) := by decide +kernel
theorem dX5_ifAsked_50 : decode cX5_ifAsked 50 = .ok (.aload_n 0, 1) := by decide +kernel
theorem dX5_ifAsked_51 : decode cX5_ifAsked 51 = .ok (.getfield 10, 3) := by decide +kernel
theorem dX5_ifAsked_54 : decode cX5_ifAsked 54 = .ok (.iload_n 1, 1) := by decide +kernel
theorem dX5_ifAsked_55 : decode cX5_ifAsked 55 = .ok (.iload_n 2, 1) := by decide +kernel
theorem dX5_ifAsked_56 : decode cX5_ifAsked 56 = .ok (.invokevirtual 157, 3) := by decide +kernel
theorem dX5_ifAsked_59 : decode cX5_ifAsked 59 = .ok (.istore 5, 2) := by decide +kernel
theorem dX5_ifAsked_61 : decode cX5_ifAsked 61 = .ok (.iload 4, 2) := by decide +kernel
theorem dX5_ifAsked_63 : decode cX5_ifAsked 63 = .ok (.ifCond .eq 18, 3) := by decide +kernel
theorem dX5_ifAsked_66 : decode cX5_ifAsked 66 = .ok (.aload_n 0, 1) := by decide +kernel
theorem dX5_ifAsked_67 : decode cX5_ifAsked 67 = .ok (.getfield 10, 3) := by decide +kernel
theorem dX5_ifAsked_70 : decode cX5_ifAsked 70 = .ok (.getfield 92, 3) := by decide +kernel
theorem dX5_ifAsked_73 : decode cX5_ifAsked 73 = .ok (.iload_n 1, 1) := by decide +kernel
theorem dX5_ifAsked_74 : decode cX5_ifAsked 74 = .ok (.aaload, 1) := by decide +kernel
theorem dX5_ifAsked_75 : decode cX5_ifAsked 75 = .ok (.getfield 160, 3) := by decide +kernel
theorem dX5_ifAsked_78 : decode cX5_ifAsked 78 = .ok (.goto 5, 3) := by decide +kernel
theorem dX5_ifAsked_81 : decode cX5_ifAsked 81 = .ok (.iload 5, 2) := by decide +kernel
theorem dX5_ifAsked_83 : decode cX5_ifAsked 83 = .ok (.istore 6, 2) := by decide +kernel
theorem dX5_ifAsked_85 : decode cX5_ifAsked 85 = .ok (.aload_n 0, 1) := by decide +kernel
theorem dX5_ifAsked_86 : decode cX5_ifAsked 86 = .ok (.getfield 10, 3) := by decide +kernel
theorem dX5_ifAsked_89 : decode cX5_ifAsked 89 = .ok (.iload_n 1, 1) := by decide +kernel
theorem dX5_ifAsked_90 : decode cX5_ifAsked 90 = .ok (.iload 6, 2) := by decide +kernel
theorem dX5_ifAsked_92 : decode cX5_ifAsked 92 = .ok (.iload_n 2, 1) := by decide +kernel
theorem dX5_ifAsked_93 : decode cX5_ifAsked 93 = .ok (.invokevirtual 153, 3) := by decide +kernel
theorem dX5_ifAsked_96 : decode cX5_ifAsked 96 = .ok (.istore 7, 2) := by decide +kernel
theorem dX5_ifAsked_98 : decode cX5_ifAsked 98 = .ok (.iload 4, 2) := by decide +kernel
theorem dX5_ifAsked_100 : decode cX5_ifAsked 100 = .ok (.ifCond .eq 7, 3) := by decide +kernel
theorem dX5_ifAsked_103 : decode cX5_ifAsked 103 = .ok (.iconst 0, 1) := by decide +kernel
theorem dX5_ifAsked_104 : decode cX5_ifAsked 104 = .ok (.goto 12, 3) := by decide +kernel
theorem dX5_ifAsked_107 : decode cX5_ifAsked 107 = .ok (.aload_n 0, 1) := by decide +kernel
theorem dX5_ifAsked_108 : decode cX5_ifAsked 108 = .ok (.getfield 10, 3) := by decide +kernel
theorem dX5_ifAsked_111 : decode cX5_ifAsked 111 = .ok (.getfield 131, 3) := by decide +kernel
theorem dX5_ifAsked_114 : decode cX5_ifAsked 114 = .ok (.iconst 0, 1) := by decide +kernel
theorem dX5_ifAsked_115 : decode cX5_ifAsked 115 = .ok (.iaload, 1) := by decide +kernel
theorem dX5_ifAsked_116 : decode cX5_ifAsked 116 = .ok (.istore 8, 2) := by decide +kernel
theorem dX5_ifAsked_118 : decode cX5_ifAsked 118 = .ok (.iload_n 3, 1) := by decide +kernel
theorem dX5_ifAsked_119 : decode cX5_ifAsked 119 = .ok (.tableswitch 81 0 3 #[29, 35, 38, 62], 29) := by decide +kernel
theorem dX5_ifAsked_148 : decode cX5_ifAsked 148 = .ok (.iload 7, 2) := by decide +kernel
theorem dX5_ifAsked_150 : decode cX5_ifAsked 150 = .ok (.iload 8, 2) := by decide +kernel
theorem dX5_ifAsked_152 : decode cX5_ifAsked 152 = .ok (.iadd, 1) := by decide +kernel
theorem dX5_ifAsked_153 : decode cX5_ifAsked 153 = .ok (.ireturn, 1) := by decide +kernel
theorem dX5_ifAsked_154 : decode cX5_ifAsked 154 = .ok (.iload 6, 2) := by decide +kernel
theorem dX5_ifAsked_156 : decode cX5_ifAsked 156 = .ok (.ireturn, 1) := by decide +kernel
theorem dX5_ifAsked_157 : decode cX5_ifAsked 157 = .ok (.iload 4, 2) := by decide +kernel
theorem dX5_ifAsked_159 : decode cX5_ifAsked 159 = .ok (.ifCond .eq 20, 3) := by decide +kernel
theorem dX5_ifAsked_162 : decode cX5_ifAsked 162 = .ok (.aload_n 0, 1) := by decide +kernel
theorem dX5_ifAsked_163 : decode cX5_ifAsked 163 = .ok (.getfield 10, 3) := by decide +kernel
theorem dX5_ifAsked_166 : decode cX5_ifAsked 166 = .ok (.iload_n 1, 1) := by decide +kernel
theorem dX5_ifAsked_167 : decode cX5_ifAsked 167 = .ok (.iload 7, 2) := by decide +kernel
theorem dX5_ifAsked_169 : decode cX5_ifAsked 169 = .ok (.invokevirtual 194, 3) := by decide +kernel
theorem dX5_ifAsked_172 : decode cX5_ifAsked 172 = .ok (.ifCond .eq 7, 3) := by decide +kernel
theorem dX5_ifAsked_175 : decode cX5_ifAsked 175 = .ok (.iconst 1, 1) := by decide +kernel
theorem dX5_ifAsked_176 : decode cX5_ifAsked 176 = .ok (.goto 4, 3) := by decide +kernel
theorem dX5_ifAsked_179 : decode cX5_ifAsked 179 = .ok (.iconst 0, 1) := by decide +kernel
theorem dX5_ifAsked_180 : decode cX5_ifAsked 180 = .ok (.ireturn, 1) := by decide +kernel
theorem dX5_ifAsked_181 : decode cX5_ifAsked 181 = .ok (.iload 4, 2) := by decide +kernel
theorem dX5_ifAsked_183 : decode cX5_ifAsked 183 = .ok (.ifCond .eq 8, 3) := by decide +kernel
theorem dX5_ifAsked_186 : decode cX5_ifAsked 186 = .ok (.bipush (-4), 2) := by decide +kernel
theorem dX5_ifAsked_188 : decode cX5_ifAsked 188 = .ok (.goto 11, 3) := by decide +kernel
theorem dX5_ifAsked_191 : decode cX5_ifAsked 191 = .ok (.aload_n 0, 1) := by decide +kernel
theorem dX5_ifAsked_192 : decode cX5_ifAsked 192 = .ok (.getfield 10, 3) := by decide +kernel
theorem dX5_ifAsked_195 : decode cX5_ifAsked 195 = .ok (.iload_n 1, 1) := by decide +kernel
theorem dX5_ifAsked_196 : decode cX5_ifAsked 196 = .ok (.invokevirtual 197, 3) := by decide +kernel
theorem dX5_ifAsked_199 : decode cX5_ifAsked 199 = .ok (.ireturn, 1) := by decide +kernel
theorem dX5_ifAsked_200 : decode cX5_ifAsked 200 = .ok (.iload 7, 2) := by decide +kernel
theorem dX5_ifAsked_202 : decode cX5_ifAsked 202 = .ok (.iload 8, 2) := by decide +kernel
theorem dX5_ifAsked_204 : decode cX5_ifAsked 204 = .ok (.iadd, 1) := by decide +kernel
theorem dX5_ifAsked_205 : decode cX5_ifAsked 205 = .ok (.aload_n 0, 1) := by decide +kernel
theorem dX5_ifAsked_206 : decode cX5_ifAsked 206 = .ok (.getfield 10, 3) := by decide +kernel
theorem dX5_ifAsked_209 : decode cX5_ifAsked 209 = .ok (.iload_n 1, 1) := by decide +kernel
theorem dX5_ifAsked_210 : decode cX5_ifAsked 210 = .ok (.iload 5, 2) := by decide +kernel
theorem dX5_ifAsked_212 : decode cX5_ifAsked 212 = .ok (.iload_n 2, 1) := by decide +kernel
theorem dX5_ifAsked_213 : decode cX5_ifAsked 213 = .ok (.invokevirtual 153, 3) := by decide +kernel
theorem dX5_ifAsked_216 : decode cX5_ifAsked 216 = .ok (.isub, 1) := by decide +kernel
theorem dX5_ifAsked_217 : decode cX5_ifAsked 217 = .ok (.ireturn, 1) := by decide +kernel
theorem dX5_reach_0 : decode cX5_reach 0 = .ok (.iload_n 1, 1) := by decide +kernel
theorem dX5_reach_1 : decode cX5_reach 1 = .ok (.invokestatic 62, 3) := by decide +kernel
theorem dX5_reach_4 : decode cX5_reach 4 = .ok (.ifCond .ne 5, 3) := by decide +kernel
theorem dX5_reach_7 : decode cX5_reach 7 = .ok (.iconst (-1), 1) := by decide +kernel
theorem dX5_reach_8 : decode cX5_reach 8 = .ok (.ireturn, 1) := by decide +kernel
theorem dX5_reach_9 : decode cX5_reach 9 = .ok (.iload_n 2, 1) := by decide +kernel
theorem dX5_reach_10 : decode cX5_reach 10 = .ok (.invokestatic 110, 3) := by decide +kernel
theorem dX5_reach_13 : decode cX5_reach 13 = .ok (.ifCond .ne 6, 3) := by decide +kernel
theorem dX5_reach_16 : decode cX5_reach 16 = .ok (.bipush (-2), 2) := by decide +kernel
theorem dX5_reach_18 : decode cX5_reach 18 = .ok (.ireturn, 1) := by decide +kernel
theorem dX5_reach_19 : decode cX5_reach 19 = .ok (.iconst 0, 1) := by decide +kernel
theorem dX5_reach_20 : decode cX5_reach 20 = .ok (.istore_n 3, 1) := by decide +kernel
theorem dX5_reach_21 : decode cX5_reach 21 = .ok (.iload_n 1, 1) := by decide +kernel
theorem dX5_reach_22 : decode cX5_reach 22 = .ok (.iconst 3, 1) := by decide +kernel
theorem dX5_reach_23 : decode cX5_reach 23 = .ok (.irem, 1) := by decide +kernel
theorem dX5_reach_24 : decode cX5_reach 24 = .ok (.invokestatic 201, 3) := by decide +kernel
theorem dX5_reach_27 : decode cX5_reach 27 = .ok (.istore 4, 2) := by decide +kernel
theorem dX5_reach_29 : decode cX5_reach 29 = .ok (.iload 4, 2) := by decide +kernel
theorem dX5_reach_31 : decode cX5_reach 31 = .ok (.sipush 200, 3) := by decide +kernel
theorem dX5_reach_34 : decode cX5_reach 34 = .ok (.if_icmp .gt 26, 3) := by decide +kernel
theorem dX5_reach_37 : decode cX5_reach 37 = .ok (.aload_n 0, 1) := by decide +kernel
theorem dX5_reach_38 : decode cX5_reach 38 = .ok (.getfield 10, 3) := by decide +kernel
theorem dX5_reach_41 : decode cX5_reach 41 = .ok (.iload_n 1, 1) := by decide +kernel
theorem dX5_reach_42 : decode cX5_reach 42 = .ok (.iload 4, 2) := by decide +kernel
theorem dX5_reach_44 : decode cX5_reach 44 = .ok (.invokevirtual 157, 3) := by decide +kernel
theorem dX5_reach_47 : decode cX5_reach 47 = .ok (.iload_n 2, 1) := by decide +kernel
theorem dX5_reach_48 : decode cX5_reach 48 = .ok (.if_icmp .ne 6, 3) := by decide +kernel
theorem dX5_reach_51 : decode cX5_reach 51 = .ok (.iinc 3 1, 3) := by decide +kernel
theorem dX5_reach_54 : decode cX5_reach 54 = .ok (.iinc 4 1, 3) := by decide +kernel
theorem dX5_reach_57 : decode cX5_reach 57 = .ok (.goto (-28), 3) := by decide +kernel
theorem dX5_reach_60 : decode cX5_reach 60 = .ok (.iload_n 3, 1) := by decide +kernel
theorem dX5_reach_61 : decode cX5_reach 61 = .ok (.ireturn, 1) := by decide +kernel
theorem dX5_oldest_0 : decode cX5_oldest 0 = .ok (.aload_n 0, 1) := by decide +kernel
theorem dX5_oldest_1 : decode cX5_oldest 1 = .ok (.getfield 10, 3) := by decide +kernel
theorem dX5_oldest_4 : decode cX5_oldest 4 = .ok (.invokevirtual 204, 3) := by decide +kernel
theorem dX5_oldest_7 : decode cX5_oldest 7 = .ok (.ireturn, 1) := by decide +kernel
theorem dX5_tableOf_0 : decode cX5_tableOf 0 = .ok (.iload_n 1, 1) := by decide +kernel
theorem dX5_tableOf_1 : decode cX5_tableOf 1 = .ok (.invokestatic 37, 3) := by decide +kernel
theorem dX5_tableOf_4 : decode cX5_tableOf 4 = .ok (.ifCond .ne 5, 3) := by decide +kernel
theorem dX5_tableOf_7 : decode cX5_tableOf 7 = .ok (.iconst (-1), 1) := by decide +kernel
theorem dX5_tableOf_8 : decode cX5_tableOf 8 = .ok (.ireturn, 1) := by decide +kernel
theorem dX5_tableOf_9 : decode cX5_tableOf 9 = .ok (.aload_n 0, 1) := by decide +kernel
theorem dX5_tableOf_10 : decode cX5_tableOf 10 = .ok (.getfield 10, 3) := by decide +kernel
theorem dX5_tableOf_13 : decode cX5_tableOf 13 = .ok (.getfield 41, 3) := by decide +kernel
theorem dX5_tableOf_16 : decode cX5_tableOf 16 = .ok (.iload_n 1, 1) := by decide +kernel
theorem dX5_tableOf_17 : decode cX5_tableOf 17 = .ok (.aaload, 1) := by decide +kernel
theorem dX5_tableOf_18 : decode cX5_tableOf 18 = .ok (.astore_n 3, 1) := by decide +kernel
theorem dX5_tableOf_19 : decode cX5_tableOf 19 = .ok (.iload_n 2, 1) := by decide +kernel
theorem dX5_tableOf_20 : decode cX5_tableOf 20 = .ok (.tableswitch 65 0 4 #[36, 41, 46, 55, 60], 36) := by decide +kernel
theorem dX5_tableOf_56 : decode cX5_tableOf 56 = .ok (.aload_n 3, 1) := by decide +kernel
theorem dX5_tableOf_57 : decode cX5_tableOf 57 = .ok (.getfield 51, 3) := by decide +kernel
theorem dX5_tableOf_60 : decode cX5_tableOf 60 = .ok (.ireturn, 1) := by decide +kernel
theorem dX5_tableOf_61 : decode cX5_tableOf 61 = .ok (.aload_n 3, 1) := by decide +kernel
theorem dX5_tableOf_62 : decode cX5_tableOf 62 = .ok (.getfield 45, 3) := by decide +kernel
theorem dX5_tableOf_65 : decode cX5_tableOf 65 = .ok (.ireturn, 1) := by decide +kernel
theorem dX5_tableOf_66 : decode cX5_tableOf 66 = .ok (.aload_n 0, 1) := by decide +kernel
theorem dX5_tableOf_67 : decode cX5_tableOf 67 = .ok (.getfield 10, 3) := by decide +kernel
theorem dX5_tableOf_70 : decode cX5_tableOf 70 = .ok (.iload_n 1, 1) := by decide +kernel
theorem dX5_tableOf_71 : decode cX5_tableOf 71 = .ok (.invokevirtual 207, 3) := by decide +kernel
theorem dX5_tableOf_74 : decode cX5_tableOf 74 = .ok (.ireturn, 1) := by decide +kernel
theorem dX5_tableOf_75 : decode cX5_tableOf 75 = .ok (.aload_n 3, 1) := by decide +kernel
theorem dX5_tableOf_76 : decode cX5_tableOf 76 = .ok (.getfield 210, 3) := by decide +kernel
theorem dX5_tableOf_79 : decode cX5_tableOf 79 = .ok (.ireturn, 1) := by decide +kernel
theorem dX5_tableOf_80 : decode cX5_tableOf 80 = .ok (.aload_n 3, 1) := by decide +kernel
theorem dX5_tableOf_81 : decode cX5_tableOf 81 = .ok (.getfield 211, 3) := by decide +kernel
theorem dX5_tableOf_84 : decode cX5_tableOf 84 = .ok (.ireturn, 1) := by decide +kernel
theorem dX5_tableOf_85 : decode cX5_tableOf 85 = .ok (.bipush (-2), 2) := by decide +kernel
theorem dX5_tableOf_87 : decode cX5_tableOf 87 = .ok (.ireturn, 1) := by decide +kernel
theorem dX5_count_0 : decode cX5_count 0 = .ok (.iload_n 1, 1) := by decide +kernel
theorem dX5_count_1 : decode cX5_count 1 = .ok (.tableswitch 229 0 16 #[83, 91, 99, 107, 115, 123, 131, 139, 147, 155, 163, 173, 183, 193, 203, 213, 221], 83) := by decide +kernel
theorem dX5_count_84 : decode cX5_count 84 = .ok (.aload_n 0, 1) := by decide +kernel
theorem dX5_count_85 : decode cX5_count 85 = .ok (.getfield 10, 3) := by decide +kernel
theorem dX5_count_88 : decode cX5_count 88 = .ok (.invokevirtual 107, 3) := by decide +kernel
theorem dX5_count_91 : decode cX5_count 91 = .ok (.ireturn, 1) := by decide +kernel
theorem dX5_count_92 : decode cX5_count 92 = .ok (.aload_n 0, 1) := by decide +kernel
theorem dX5_count_93 : decode cX5_count 93 = .ok (.getfield 10, 3) := by decide +kernel
theorem dX5_count_96 : decode cX5_count 96 = .ok (.invokevirtual 101, 3) := by decide +kernel
theorem dX5_count_99 : decode cX5_count 99 = .ok (.ireturn, 1) := by decide +kernel
theorem dX5_count_100 : decode cX5_count 100 = .ok (.aload_n 0, 1) := by decide +kernel
theorem dX5_count_101 : decode cX5_count 101 = .ok (.getfield 10, 3) := by decide +kernel
theorem dX5_count_104 : decode cX5_count 104 = .ok (.invokevirtual 214, 3) := by decide +kernel
theorem dX5_count_107 : decode cX5_count 107 = .ok (.ireturn, 1) := by decide +kernel
theorem dX5_count_108 : decode cX5_count 108 = .ok (.aload_n 0, 1) := by decide +kernel
theorem dX5_count_109 : decode cX5_count 109 = .ok (.getfield 10, 3) := by decide +kernel
theorem dX5_count_112 : decode cX5_count 112 = .ok (.getfield 175, 3) := by decide +kernel
theorem dX5_count_115 : decode cX5_count 115 = .ok (.ireturn, 1) := by decide +kernel
theorem dX5_count_116 : decode cX5_count 116 = .ok (.aload_n 0, 1) := by decide +kernel
theorem dX5_count_117 : decode cX5_count 117 = .ok (.getfield 10, 3) := by decide +kernel
theorem dX5_count_120 : decode cX5_count 120 = .ok (.getfield 217, 3) := by decide +kernel
theorem dX5_count_123 : decode cX5_count 123 = .ok (.ireturn, 1) := by decide +kernel
theorem dX5_count_124 : decode cX5_count 124 = .ok (.aload_n 0, 1) := by decide +kernel
theorem dX5_count_125 : decode cX5_count 125 = .ok (.getfield 10, 3) := by decide +kernel
theorem dX5_count_128 : decode cX5_count 128 = .ok (.getfield 220, 3) := by decide +kernel
theorem dX5_count_131 : decode cX5_count 131 = .ok (.ireturn, 1) := by decide +kernel
theorem dX5_count_132 : decode cX5_count 132 = .ok (.aload_n 0, 1) := by decide +kernel
theorem dX5_count_133 : decode cX5_count 133 = .ok (.getfield 10, 3) := by decide +kernel
theorem dX5_count_136 : decode cX5_count 136 = .ok (.getfield 223, 3) := by decide +kernel
theorem dX5_count_139 : decode cX5_count 139 = .ok (.ireturn, 1) := by decide +kernel
theorem dX5_count_140 : decode cX5_count 140 = .ok (.aload_n 0, 1) := by decide +kernel
theorem dX5_count_141 : decode cX5_count 141 = .ok (.getfield 10, 3) := by decide +kernel
theorem dX5_count_144 : decode cX5_count 144 = .ok (.getfield 224, 3) := by decide +kernel
theorem dX5_count_147 : decode cX5_count 147 = .ok (.ireturn, 1) := by decide +kernel
theorem dX5_count_148 : decode cX5_count 148 = .ok (.aload_n 0, 1) := by decide +kernel
theorem dX5_count_149 : decode cX5_count 149 = .ok (.getfield 10, 3) := by decide +kernel
theorem dX5_count_152 : decode cX5_count 152 = .ok (.getfield 227, 3) := by decide +kernel
theorem dX5_count_155 : decode cX5_count 155 = .ok (.ireturn, 1) := by decide +kernel
theorem dX5_count_156 : decode cX5_count 156 = .ok (.aload_n 0, 1) := by decide +kernel
theorem dX5_count_157 : decode cX5_count 157 = .ok (.getfield 10, 3) := by decide +kernel
theorem dX5_count_160 : decode cX5_count 160 = .ok (.getfield 230, 3) := by decide +kernel
theorem dX5_count_163 : decode cX5_count 163 = .ok (.ireturn, 1) := by decide +kernel
theorem dX5_count_164 : decode cX5_count 164 = .ok (.aload_n 0, 1) := by decide +kernel
theorem dX5_count_165 : decode cX5_count 165 = .ok (.getfield 10, 3) := by decide +kernel
theorem dX5_count_168 : decode cX5_count 168 = .ok (.getfield 131, 3) := by decide +kernel
theorem dX5_count_171 : decode cX5_count 171 = .ok (.iconst 0, 1) := by decide +kernel
theorem dX5_count_172 : decode cX5_count 172 = .ok (.iaload, 1) := by decide +kernel
theorem dX5_count_173 : decode cX5_count 173 = .ok (.ireturn, 1) := by decide +kernel
theorem dX5_count_174 : decode cX5_count 174 = .ok (.aload_n 0, 1) := by decide +kernel
theorem dX5_count_175 : decode cX5_count 175 = .ok (.getfield 10, 3) := by decide +kernel
theorem dX5_count_178 : decode cX5_count 178 = .ok (.getfield 131, 3) := by decide +kernel
theorem dX5_count_181 : decode cX5_count 181 = .ok (.iconst 1, 1) := by decide +kernel
theorem dX5_count_182 : decode cX5_count 182 = .ok (.iaload, 1) := by decide +kernel
theorem dX5_count_183 : decode cX5_count 183 = .ok (.ireturn, 1) := by decide +kernel
theorem dX5_count_184 : decode cX5_count 184 = .ok (.aload_n 0, 1) := by decide +kernel
theorem dX5_count_185 : decode cX5_count 185 = .ok (.getfield 10, 3) := by decide +kernel
theorem dX5_count_188 : decode cX5_count 188 = .ok (.getfield 131, 3) := by decide +kernel
theorem dX5_count_191 : decode cX5_count 191 = .ok (.iconst 2, 1) := by decide +kernel
theorem dX5_count_192 : decode cX5_count 192 = .ok (.iaload, 1) := by decide +kernel
theorem dX5_count_193 : decode cX5_count 193 = .ok (.ireturn, 1) := by decide +kernel
theorem dX5_count_194 : decode cX5_count 194 = .ok (.aload_n 0, 1) := by decide +kernel
theorem dX5_count_195 : decode cX5_count 195 = .ok (.getfield 10, 3) := by decide +kernel
theorem dX5_count_198 : decode cX5_count 198 = .ok (.getfield 131, 3) := by decide +kernel
theorem dX5_count_201 : decode cX5_count 201 = .ok (.iconst 3, 1) := by decide +kernel
theorem dX5_count_202 : decode cX5_count 202 = .ok (.iaload, 1) := by decide +kernel
theorem dX5_count_203 : decode cX5_count 203 = .ok (.ireturn, 1) := by decide +kernel
theorem dX5_count_204 : decode cX5_count 204 = .ok (.aload_n 0, 1) := by decide +kernel
theorem dX5_count_205 : decode cX5_count 205 = .ok (.getfield 10, 3) := by decide +kernel
theorem dX5_count_208 : decode cX5_count 208 = .ok (.getfield 131, 3) := by decide +kernel
theorem dX5_count_211 : decode cX5_count 211 = .ok (.iconst 4, 1) := by decide +kernel
theorem dX5_count_212 : decode cX5_count 212 = .ok (.iaload, 1) := by decide +kernel
theorem dX5_count_213 : decode cX5_count 213 = .ok (.ireturn, 1) := by decide +kernel
theorem dX5_count_214 : decode cX5_count 214 = .ok (.aload_n 0, 1) := by decide +kernel
theorem dX5_count_215 : decode cX5_count 215 = .ok (.getfield 22, 3) := by decide +kernel
theorem dX5_count_218 : decode cX5_count 218 = .ok (.getfield 144, 3) := by decide +kernel
theorem dX5_count_221 : decode cX5_count 221 = .ok (.ireturn, 1) := by decide +kernel
theorem dX5_count_222 : decode cX5_count 222 = .ok (.aload_n 0, 1) := by decide +kernel
theorem dX5_count_223 : decode cX5_count 223 = .ok (.getfield 29, 3) := by decide +kernel
theorem dX5_count_226 : decode cX5_count 226 = .ok (.getfield 137, 3) := by decide +kernel
theorem dX5_count_229 : decode cX5_count 229 = .ok (.ireturn, 1) := by decide +kernel
theorem dX5_count_230 : decode cX5_count 230 = .ok (.bipush (-2), 2) := by decide +kernel
theorem dX5_count_232 : decode cX5_count 232 = .ok (.ireturn, 1) := by decide +kernel
theorem dX5_isTable_0 : decode cX5_isTable 0 = .ok (.iload_n 0, 1) := by decide +kernel
theorem dX5_isTable_1 : decode cX5_isTable 1 = .ok (.ifCond .lt 12, 3) := by decide +kernel
theorem dX5_isTable_4 : decode cX5_isTable 4 = .ok (.iload_n 0, 1) := by decide +kernel
theorem dX5_isTable_5 : decode cX5_isTable 5 = .ok (.iconst 4, 1) := by decide +kernel
theorem dX5_isTable_6 : decode cX5_isTable 6 = .ok (.if_icmp .ge 7, 3) := by decide +kernel
theorem dX5_isTable_9 : decode cX5_isTable 9 = .ok (.iconst 1, 1) := by decide +kernel
theorem dX5_isTable_10 : decode cX5_isTable 10 = .ok (.goto 4, 3) := by decide +kernel
theorem dX5_isTable_13 : decode cX5_isTable 13 = .ok (.iconst 0, 1) := by decide +kernel
theorem dX5_isTable_14 : decode cX5_isTable 14 = .ok (.ireturn, 1) := by decide +kernel
theorem dX5_isShape_0 : decode cX5_isShape 0 = .ok (.iload_n 0, 1) := by decide +kernel
theorem dX5_isShape_1 : decode cX5_isShape 1 = .ok (.ifCond .lt 13, 3) := by decide +kernel
theorem dX5_isShape_4 : decode cX5_isShape 4 = .ok (.iload_n 0, 1) := by decide +kernel
theorem dX5_isShape_5 : decode cX5_isShape 5 = .ok (.bipush 12, 2) := by decide +kernel
theorem dX5_isShape_7 : decode cX5_isShape 7 = .ok (.if_icmp .ge 7, 3) := by decide +kernel
theorem dX5_isShape_10 : decode cX5_isShape 10 = .ok (.iconst 1, 1) := by decide +kernel
theorem dX5_isShape_11 : decode cX5_isShape 11 = .ok (.goto 4, 3) := by decide +kernel
theorem dX5_isShape_14 : decode cX5_isShape 14 = .ok (.iconst 0, 1) := by decide +kernel
theorem dX5_isShape_15 : decode cX5_isShape 15 = .ok (.ireturn, 1) := by decide +kernel
theorem dX5_isWay_0 : decode cX5_isWay 0 = .ok (.iload_n 0, 1) := by decide +kernel
theorem dX5_isWay_1 : decode cX5_isWay 1 = .ok (.ifCond .lt 12, 3) := by decide +kernel
theorem dX5_isWay_4 : decode cX5_isWay 4 = .ok (.iload_n 0, 1) := by decide +kernel
theorem dX5_isWay_5 : decode cX5_isWay 5 = .ok (.iconst 3, 1) := by decide +kernel
theorem dX5_isWay_6 : decode cX5_isWay 6 = .ok (.if_icmp .ge 7, 3) := by decide +kernel
theorem dX5_isWay_9 : decode cX5_isWay 9 = .ok (.iconst 1, 1) := by decide +kernel
theorem dX5_isWay_10 : decode cX5_isWay 10 = .ok (.goto 4, 3) := by decide +kernel
theorem dX5_isWay_13 : decode cX5_isWay 13 = .ok (.iconst 0, 1) := by decide +kernel
theorem dX5_isWay_14 : decode cX5_isWay 14 = .ok (.ireturn, 1) := by decide +kernel
theorem dX5_hasPlan_0 : decode cX5_hasPlan 0 = .ok (.iload_n 1, 1) := by decide +kernel
theorem dX5_hasPlan_1 : decode cX5_hasPlan 1 = .ok (.invokestatic 62, 3) := by decide +kernel
theorem dX5_hasPlan_4 : decode cX5_hasPlan 4 = .ok (.ifCond .eq 22, 3) := by decide +kernel
theorem dX5_hasPlan_7 : decode cX5_hasPlan 7 = .ok (.aload_n 0, 1) := by decide +kernel
theorem dX5_hasPlan_8 : decode cX5_hasPlan 8 = .ok (.getfield 10, 3) := by decide +kernel
theorem dX5_hasPlan_11 : decode cX5_hasPlan 11 = .ok (.getfield 92, 3) := by decide +kernel
theorem dX5_hasPlan_14 : decode cX5_hasPlan 14 = .ok (.iload_n 1, 1) := by decide +kernel
theorem dX5_hasPlan_15 : decode cX5_hasPlan 15 = .ok (.aaload, 1) := by decide +kernel
theorem dX5_hasPlan_16 : decode cX5_hasPlan 16 = .ok (.getfield 104, 3) := by decide +kernel
theorem dX5_hasPlan_19 : decode cX5_hasPlan 19 = .ok (.ifCond .eq 7, 3) := by decide +kernel
theorem dX5_hasPlan_22 : decode cX5_hasPlan 22 = .ok (.iconst 1, 1) := by decide +kernel
theorem dX5_hasPlan_23 : decode cX5_hasPlan 23 = .ok (.goto 4, 3) := by decide +kernel
theorem dX5_hasPlan_26 : decode cX5_hasPlan 26 = .ok (.iconst 0, 1) := by decide +kernel
theorem dX5_hasPlan_27 : decode cX5_hasPlan 27 = .ok (.ireturn, 1) := by decide +kernel
theorem dX5_leastNumberOf_0 : decode cX5_leastNumberOf 0 = .ok (.iload_n 0, 1) := by decide +kernel
theorem dX5_leastNumberOf_1 : decode cX5_leastNumberOf 1 = .ok (.ifCond .ne 7, 3) := by decide +kernel
theorem dX5_leastNumberOf_4 : decode cX5_leastNumberOf 4 = .ok (.iconst 0, 1) := by decide +kernel
theorem dX5_leastNumberOf_5 : decode cX5_leastNumberOf 5 = .ok (.goto 4, 3) := by decide +kernel
theorem dX5_leastNumberOf_8 : decode cX5_leastNumberOf 8 = .ok (.iconst 1, 1) := by decide +kernel
theorem dX5_leastNumberOf_9 : decode cX5_leastNumberOf 9 = .ok (.ireturn, 1) := by decide +kernel
theorem dX5_isNumberOf_0 : decode cX5_isNumberOf 0 = .ok (.iload_n 1, 1) := by decide +kernel
theorem dX5_isNumberOf_1 : decode cX5_isNumberOf 1 = .ok (.iload_n 0, 1) := by decide +kernel
theorem dX5_isNumberOf_2 : decode cX5_isNumberOf 2 = .ok (.invokestatic 201, 3) := by decide +kernel
theorem dX5_isNumberOf_5 : decode cX5_isNumberOf 5 = .ok (.if_icmp .lt 14, 3) := by decide +kernel
theorem dX5_isNumberOf_8 : decode cX5_isNumberOf 8 = .ok (.iload_n 1, 1) := by decide +kernel
theorem dX5_isNumberOf_9 : decode cX5_isNumberOf 9 = .ok (.sipush 9999, 3) := by decide +kernel
theorem dX5_isNumberOf_12 : decode cX5_isNumberOf 12 = .ok (.if_icmp .gt 7, 3) := by decide +kernel
theorem dX5_isNumberOf_15 : decode cX5_isNumberOf 15 = .ok (.iconst 1, 1) := by decide +kernel
theorem dX5_isNumberOf_16 : decode cX5_isNumberOf 16 = .ok (.goto 4, 3) := by decide +kernel
theorem dX5_isNumberOf_19 : decode cX5_isNumberOf 19 = .ok (.iconst 0, 1) := by decide +kernel
theorem dX5_isNumberOf_20 : decode cX5_isNumberOf 20 = .ok (.ireturn, 1) := by decide +kernel
theorem dX5_bitsOf_0 : decode cX5_bitsOf 0 = .ok (.iconst 0, 1) := by decide +kernel
theorem dX5_bitsOf_1 : decode cX5_bitsOf 1 = .ok (.istore_n 1, 1) := by decide +kernel
theorem dX5_bitsOf_2 : decode cX5_bitsOf 2 = .ok (.iload_n 1, 1) := by decide +kernel
theorem dX5_bitsOf_3 : decode cX5_bitsOf 3 = .ok (.bipush 31, 2) := by decide +kernel
theorem dX5_bitsOf_5 : decode cX5_bitsOf 5 = .ok (.if_icmp .ge 15, 3) := by decide +kernel
theorem dX5_bitsOf_8 : decode cX5_bitsOf 8 = .ok (.iload_n 0, 1) := by decide +kernel
theorem dX5_bitsOf_9 : decode cX5_bitsOf 9 = .ok (.iload_n 1, 1) := by decide +kernel
theorem dX5_bitsOf_10 : decode cX5_bitsOf 10 = .ok (.ishr, 1) := by decide +kernel
theorem dX5_bitsOf_11 : decode cX5_bitsOf 11 = .ok (.ifCond .le 9, 3) := by decide +kernel
theorem dX5_bitsOf_14 : decode cX5_bitsOf 14 = .ok (.iinc 1 1, 3) := by decide +kernel
theorem dX5_bitsOf_17 : decode cX5_bitsOf 17 = .ok (.goto (-15), 3) := by decide +kernel
theorem dX5_bitsOf_20 : decode cX5_bitsOf 20 = .ok (.iload_n 1, 1) := by decide +kernel
theorem dX5_bitsOf_21 : decode cX5_bitsOf 21 = .ok (.ireturn, 1) := by decide +kernel
theorem dX5_quotient_0 : decode cX5_quotient 0 = .ok (.iload_n 1, 1) := by decide +kernel
theorem dX5_quotient_1 : decode cX5_quotient 1 = .ok (.iconst 1, 1) := by decide +kernel
theorem dX5_quotient_2 : decode cX5_quotient 2 = .ok (.if_icmp .ge 7, 3) := by decide +kernel
theorem dX5_quotient_5 : decode cX5_quotient 5 = .ok (.iconst 0, 1) := by decide +kernel
theorem dX5_quotient_6 : decode cX5_quotient 6 = .ok (.goto 6, 3) := by decide +kernel
theorem dX5_quotient_9 : decode cX5_quotient 9 = .ok (.iload_n 0, 1) := by decide +kernel
theorem dX5_quotient_10 : decode cX5_quotient 10 = .ok (.iload_n 1, 1) := by decide +kernel
theorem dX5_quotient_11 : decode cX5_quotient 11 = .ok (.idiv, 1) := by decide +kernel
theorem dX5_quotient_12 : decode cX5_quotient 12 = .ok (.ireturn, 1) := by decide +kernel
theorem dX6_init_0 : decode cX6_init 0 = .ok (.aload_n 0, 1) := by decide +kernel
theorem dX6_init_1 : decode cX6_init 1 = .ok (.invokespecial 1, 3) := by decide +kernel
theorem dX6_init_4 : decode cX6_init 4 = .ok (.aload_n 0, 1) := by decide +kernel
theorem dX6_init_5 : decode cX6_init 5 = .ok (.sipush 1120, 3) := by decide +kernel
theorem dX6_init_8 : decode cX6_init 8 = .ok (.newarray .int, 2) := by decide +kernel
theorem dX6_init_10 : decode cX6_init 10 = .ok (.putfield 7, 3) := by decide +kernel
theorem dX6_init_13 : decode cX6_init 13 = .ok (.aload_n 0, 1) := by decide +kernel
theorem dX6_init_14 : decode cX6_init 14 = .ok (.bipush 80, 2) := by decide +kernel
theorem dX6_init_16 : decode cX6_init 16 = .ok (.newarray .char, 2) := by decide +kernel
theorem dX6_init_18 : decode cX6_init 18 = .ok (.putfield 13, 3) := by decide +kernel
theorem dX6_init_21 : decode cX6_init 21 = .ok (.iconst 0, 1) := by decide +kernel
theorem dX6_init_22 : decode cX6_init 22 = .ok (.istore_n 1, 1) := by decide +kernel
theorem dX6_init_23 : decode cX6_init 23 = .ok (.iload_n 1, 1) := by decide +kernel
theorem dX6_init_24 : decode cX6_init 24 = .ok (.iconst 4, 1) := by decide +kernel
theorem dX6_init_25 : decode cX6_init 25 = .ok (.if_icmp .ge 27, 3) := by decide +kernel
theorem dX6_init_28 : decode cX6_init 28 = .ok (.aload_n 0, 1) := by decide +kernel
theorem dX6_init_29 : decode cX6_init 29 = .ok (.getfield 7, 3) := by decide +kernel
theorem dX6_init_32 : decode cX6_init 32 = .ok (.iload_n 1, 1) := by decide +kernel
theorem dX6_init_33 : decode cX6_init 33 = .ok (.bipush 100, 2) := by decide +kernel
theorem dX6_init_35 : decode cX6_init 35 = .ok (.iastore, 1) := by decide +kernel
theorem dX6_init_36 : decode cX6_init 36 = .ok (.aload_n 0, 1) := by decide +kernel
theorem dX6_init_37 : decode cX6_init 37 = .ok (.getfield 7, 3) := by decide +kernel
theorem dX6_init_40 : decode cX6_init 40 = .ok (.iconst 4, 1) := by decide +kernel
theorem dX6_init_41 : decode cX6_init 41 = .ok (.iload_n 1, 1) := by decide +kernel
theorem dX6_init_42 : decode cX6_init 42 = .ok (.iadd, 1) := by decide +kernel
theorem dX6_init_43 : decode cX6_init 43 = .ok (.bipush 10, 2) := by decide +kernel
theorem dX6_init_45 : decode cX6_init 45 = .ok (.iastore, 1) := by decide +kernel
theorem dX6_init_46 : decode cX6_init 46 = .ok (.iinc 1 1, 3) := by decide +kernel
theorem dX6_init_49 : decode cX6_init 49 = .ok (.goto (-26), 3) := by decide +kernel
theorem dX6_init_52 : decode cX6_init 52 = .ok (.aload_n 0, 1) := by decide +kernel
theorem dX6_init_53 : decode cX6_init 53 = .ok (.getfield 7, 3) := by decide +kernel
theorem dX6_init_56 : decode cX6_init 56 = .ok (.bipush 8, 2) := by decide +kernel
theorem dX6_init_58 : decode cX6_init 58 = .ok (.bipush 50, 2) := by decide +kernel
theorem dX6_init_60 : decode cX6_init 60 = .ok (.iastore, 1) := by decide +kernel
theorem dX6_init_61 : decode cX6_init 61 = .ok (.aload_n 0, 1) := by decide +kernel
theorem dX6_init_62 : decode cX6_init 62 = .ok (.getfield 7, 3) := by decide +kernel
theorem dX6_init_65 : decode cX6_init 65 = .ok (.bipush 9, 2) := by decide +kernel
theorem dX6_init_67 : decode cX6_init 67 = .ok (.iconst 2, 1) := by decide +kernel
theorem dX6_init_68 : decode cX6_init 68 = .ok (.iastore, 1) := by decide +kernel
theorem dX6_init_69 : decode cX6_init 69 = .ok (.aload_n 0, 1) := by decide +kernel
theorem dX6_init_70 : decode cX6_init 70 = .ok (.getfield 7, 3) := by decide +kernel
theorem dX6_init_73 : decode cX6_init 73 = .ok (.bipush 10, 2) := by decide +kernel
theorem dX6_init_75 : decode cX6_init 75 = .ok (.bipush 20, 2) := by decide +kernel
theorem dX6_init_77 : decode cX6_init 77 = .ok (.iastore, 1) := by decide +kernel
theorem dX6_init_78 : decode cX6_init 78 = .ok (.aload_n 0, 1) := by decide +kernel
theorem dX6_init_79 : decode cX6_init 79 = .ok (.getfield 7, 3) := by decide +kernel
theorem dX6_init_82 : decode cX6_init 82 = .ok (.bipush 11, 2) := by decide +kernel
theorem dX6_init_84 : decode cX6_init 84 = .ok (.bipush 6, 2) := by decide +kernel
theorem dX6_init_86 : decode cX6_init 86 = .ok (.iastore, 1) := by decide +kernel
theorem dX6_init_87 : decode cX6_init 87 = .ok (.aload_n 0, 1) := by decide +kernel
theorem dX6_init_88 : decode cX6_init 88 = .ok (.getfield 7, 3) := by decide +kernel
theorem dX6_init_91 : decode cX6_init 91 = .ok (.bipush 12, 2) := by decide +kernel
theorem dX6_init_93 : decode cX6_init 93 = .ok (.iconst 4, 1) := by decide +kernel
theorem dX6_init_94 : decode cX6_init 94 = .ok (.iastore, 1) := by decide +kernel
theorem dX6_init_95 : decode cX6_init 95 = .ok (.return_, 1) := by decide +kernel
theorem dX6_in_0 : decode cX6_in 0 = .ok (.iload_n 0, 1) := by decide +kernel
theorem dX6_in_1 : decode cX6_in 1 = .ok (.iload_n 1, 1) := by decide +kernel
theorem dX6_in_2 : decode cX6_in 2 = .ok (.if_icmp .lt 12, 3) := by decide +kernel
theorem dX6_in_5 : decode cX6_in 5 = .ok (.iload_n 0, 1) := by decide +kernel
theorem dX6_in_6 : decode cX6_in 6 = .ok (.iload_n 2, 1) := by decide +kernel
theorem dX6_in_7 : decode cX6_in 7 = .ok (.if_icmp .gt 7, 3) := by decide +kernel
theorem dX6_in_10 : decode cX6_in 10 = .ok (.iconst 1, 1) := by decide +kernel
theorem dX6_in_11 : decode cX6_in 11 = .ok (.goto 4, 3) := by decide +kernel
theorem dX6_in_14 : decode cX6_in 14 = .ok (.iconst 0, 1) := by decide +kernel
theorem dX6_in_15 : decode cX6_in 15 = .ok (.ireturn, 1) := by decide +kernel
theorem dX6_isShape_0 : decode cX6_isShape 0 = .ok (.iload_n 0, 1) := by decide +kernel
theorem dX6_isShape_1 : decode cX6_isShape 1 = .ok (.iconst 0, 1) := by decide +kernel
theorem dX6_isShape_2 : decode cX6_isShape 2 = .ok (.bipush 11, 2) := by decide +kernel
theorem dX6_isShape_4 : decode cX6_isShape 4 = .ok (.invokestatic 17, 3) := by decide +kernel
theorem dX6_isShape_7 : decode cX6_isShape 7 = .ok (.ireturn, 1) := by decide +kernel
theorem dX6_isNumber_0 : decode cX6_isNumber 0 = .ok (.iload_n 1, 1) := by decide +kernel
theorem dX6_isNumber_1 : decode cX6_isNumber 1 = .ok (.iload_n 0, 1) := by decide +kernel
theorem dX6_isNumber_2 : decode cX6_isNumber 2 = .ok (.iconst 3, 1) := by decide +kernel
theorem dX6_isNumber_3 : decode cX6_isNumber 3 = .ok (.irem, 1) := by decide +kernel
theorem dX6_isNumber_4 : decode cX6_isNumber 4 = .ok (.ifCond .ne 7, 3) := by decide +kernel
theorem dX6_isNumber_7 : decode cX6_isNumber 7 = .ok (.iconst 0, 1) := by decide +kernel
theorem dX6_isNumber_8 : decode cX6_isNumber 8 = .ok (.goto 4, 3) := by decide +kernel
theorem dX6_isNumber_11 : decode cX6_isNumber 11 = .ok (.iconst 1, 1) := by decide +kernel
theorem dX6_isNumber_12 : decode cX6_isNumber 12 = .ok (.sipush 9999, 3) := by decide +kernel
theorem dX6_isNumber_15 : decode cX6_isNumber 15 = .ok (.invokestatic 17, 3) := by decide +kernel
theorem dX6_isNumber_18 : decode cX6_isNumber 18 = .ok (.ireturn, 1) := by decide +kernel
theorem dX6_planAt_0 : decode cX6_planAt 0 = .ok (.iload_n 0, 1) := by decide +kernel
theorem dX6_planAt_1 : decode cX6_planAt 1 = .ok (.bipush 13, 2) := by decide +kernel
theorem dX6_planAt_3 : decode cX6_planAt 3 = .ok (.iadd, 1) := by decide +kernel
theorem dX6_planAt_4 : decode cX6_planAt 4 = .ok (.bipush 11, 2) := by decide +kernel
theorem dX6_planAt_6 : decode cX6_planAt 6 = .ok (.iload_n 1, 1) := by decide +kernel
theorem dX6_planAt_7 : decode cX6_planAt 7 = .ok (.imul, 1) := by decide +kernel
theorem dX6_planAt_8 : decode cX6_planAt 8 = .ok (.iadd, 1) := by decide +kernel
theorem dX6_planAt_9 : decode cX6_planAt 9 = .ok (.ireturn, 1) := by decide +kernel
theorem dX6_copies_0 : decode cX6_copies 0 = .ok (.iconst 0, 1) := by decide +kernel
theorem dX6_copies_1 : decode cX6_copies 1 = .ok (.istore_n 3, 1) := by decide +kernel
theorem dX6_copies_2 : decode cX6_copies 2 = .ok (.iload_n 3, 1) := by decide +kernel
theorem dX6_copies_3 : decode cX6_copies 3 = .ok (.sipush 160, 3) := by decide +kernel
theorem dX6_copies_6 : decode cX6_copies 6 = .ok (.if_icmp .ge 33, 3) := by decide +kernel
theorem dX6_copies_9 : decode cX6_copies 9 = .ok (.aload_n 0, 1) := by decide +kernel
theorem dX6_copies_10 : decode cX6_copies 10 = .ok (.getfield 7, 3) := by decide +kernel
theorem dX6_copies_13 : decode cX6_copies 13 = .ok (.sipush 160, 3) := by decide +kernel
theorem dX6_copies_16 : decode cX6_copies 16 = .ok (.iload_n 2, 1) := by decide +kernel
theorem dX6_copies_17 : decode cX6_copies 17 = .ok (.imul, 1) := by decide +kernel
theorem dX6_copies_18 : decode cX6_copies 18 = .ok (.iload_n 3, 1) := by decide +kernel
theorem dX6_copies_19 : decode cX6_copies 19 = .ok (.iadd, 1) := by decide +kernel
theorem dX6_copies_20 : decode cX6_copies 20 = .ok (.aload_n 0, 1) := by decide +kernel
theorem dX6_copies_21 : decode cX6_copies 21 = .ok (.getfield 7, 3) := by decide +kernel
theorem dX6_copies_24 : decode cX6_copies 24 = .ok (.sipush 160, 3) := by decide +kernel
theorem dX6_copies_27 : decode cX6_copies 27 = .ok (.iload_n 1, 1) := by decide +kernel
theorem dX6_copies_28 : decode cX6_copies 28 = .ok (.imul, 1) := by decide +kernel
theorem dX6_copies_29 : decode cX6_copies 29 = .ok (.iload_n 3, 1) := by decide +kernel
theorem dX6_copies_30 : decode cX6_copies 30 = .ok (.iadd, 1) := by decide +kernel
theorem dX6_copies_31 : decode cX6_copies 31 = .ok (.iaload, 1) := by decide +kernel
theorem dX6_copies_32 : decode cX6_copies 32 = .ok (.iastore, 1) := by decide +kernel
theorem dX6_copies_33 : decode cX6_copies 33 = .ok (.iinc 3 1, 3) := by decide +kernel
theorem dX6_copies_36 : decode cX6_copies 36 = .ok (.goto (-34), 3) := by decide +kernel
theorem dX6_copies_39 : decode cX6_copies 39 = .ok (.return_, 1) := by decide +kernel
theorem dX6_records_0 : decode cX6_records 0 = .ok (.aload_n 0, 1) := by decide +kernel
theorem dX6_records_1 : decode cX6_records 1 = .ok (.getfield 21, 3) := by decide +kernel
theorem dX6_records_4 : decode cX6_records 4 = .ok (.iconst 4, 1) := by decide +kernel
theorem dX6_records_5 : decode cX6_records 5 = .ok (.if_icmp .ne 34, 3) := by decide +kernel
theorem dX6_records_8 : decode cX6_records 8 = .ok (.iconst 1, 1) := by decide +kernel
theorem dX6_records_9 : decode cX6_records 9 = .ok (.istore_n 1, 1) := by decide +kernel
theorem dX6_records_10 : decode cX6_records 10 = .ok (.iload_n 1, 1) := by decide +kernel
theorem dX6_records_11 : decode cX6_records 11 = .ok (.iconst 4, 1) := by decide +kernel
theorem dX6_records_12 : decode cX6_records 12 = .ok (.if_icmp .ge 17, 3) := by decide +kernel
theorem dX6_records_15 : decode cX6_records 15 = .ok (.aload_n 0, 1) := by decide +kernel
theorem dX6_records_16 : decode cX6_records 16 = .ok (.iload_n 1, 1) := by decide +kernel
theorem dX6_records_17 : decode cX6_records 17 = .ok (.iconst 1, 1) := by decide +kernel
theorem dX6_records_18 : decode cX6_records 18 = .ok (.iadd, 1) := by decide +kernel
theorem dX6_records_19 : decode cX6_records 19 = .ok (.iload_n 1, 1) := by decide +kernel
theorem dX6_records_20 : decode cX6_records 20 = .ok (.invokevirtual 25, 3) := by decide +kernel
theorem dX6_records_23 : decode cX6_records 23 = .ok (.iinc 1 1, 3) := by decide +kernel
theorem dX6_records_26 : decode cX6_records 26 = .ok (.goto (-16), 3) := by decide +kernel
theorem dX6_records_29 : decode cX6_records 29 = .ok (.aload_n 0, 1) := by decide +kernel
theorem dX6_records_30 : decode cX6_records 30 = .ok (.dup, 1) := by decide +kernel
theorem dX6_records_31 : decode cX6_records 31 = .ok (.getfield 21, 3) := by decide +kernel
theorem dX6_records_34 : decode cX6_records 34 = .ok (.iconst 1, 1) := by decide +kernel
theorem dX6_records_35 : decode cX6_records 35 = .ok (.isub, 1) := by decide +kernel
theorem dX6_records_36 : decode cX6_records 36 = .ok (.putfield 21, 3) := by decide +kernel
theorem dX6_records_39 : decode cX6_records 39 = .ok (.aload_n 0, 1) := by decide +kernel
theorem dX6_records_40 : decode cX6_records 40 = .ok (.dup, 1) := by decide +kernel
theorem dX6_records_41 : decode cX6_records 41 = .ok (.getfield 21, 3) := by decide +kernel
theorem dX6_records_44 : decode cX6_records 44 = .ok (.iconst 1, 1) := by decide +kernel
theorem dX6_records_45 : decode cX6_records 45 = .ok (.iadd, 1) := by decide +kernel
theorem dX6_records_46 : decode cX6_records 46 = .ok (.putfield 21, 3) := by decide +kernel
theorem dX6_records_49 : decode cX6_records 49 = .ok (.aload_n 0, 1) := by decide +kernel
theorem dX6_records_50 : decode cX6_records 50 = .ok (.iconst 0, 1) := by decide +kernel
theorem dX6_records_51 : decode cX6_records 51 = .ok (.aload_n 0, 1) := by decide +kernel
theorem dX6_records_52 : decode cX6_records 52 = .ok (.getfield 21, 3) := by decide +kernel
theorem dX6_records_55 : decode cX6_records 55 = .ok (.invokevirtual 25, 3) := by decide +kernel
theorem dX6_records_58 : decode cX6_records 58 = .ok (.return_, 1) := by decide +kernel
theorem dX6_bits_0 : decode cX6_bits 0 = .ok (.iconst 0, 1) := by decide +kernel
theorem dX6_bits_1 : decode cX6_bits 1 = .ok (.istore_n 1, 1) := by decide +kernel
theorem dX6_bits_2 : decode cX6_bits 2 = .ok (.iload_n 0, 1) := by decide +kernel
theorem dX6_bits_3 : decode cX6_bits 3 = .ok (.istore_n 2, 1) := by decide +kernel
theorem dX6_bits_4 : decode cX6_bits 4 = .ok (.iload_n 2, 1) := by decide +kernel
theorem dX6_bits_5 : decode cX6_bits 5 = .ok (.ifCond .le 13, 3) := by decide +kernel
theorem dX6_bits_8 : decode cX6_bits 8 = .ok (.iinc 1 1, 3) := by decide +kernel
theorem dX6_bits_11 : decode cX6_bits 11 = .ok (.iload_n 2, 1) := by decide +kernel
theorem dX6_bits_12 : decode cX6_bits 12 = .ok (.iconst 2, 1) := by decide +kernel
theorem dX6_bits_13 : decode cX6_bits 13 = .ok (.idiv, 1) := by decide +kernel
theorem dX6_bits_14 : decode cX6_bits 14 = .ok (.istore_n 2, 1) := by decide +kernel
theorem dX6_bits_15 : decode cX6_bits 15 = .ok (.goto (-11), 3) := by decide +kernel
theorem dX6_bits_18 : decode cX6_bits 18 = .ok (.iload_n 1, 1) := by decide +kernel
theorem dX6_bits_19 : decode cX6_bits 19 = .ok (.ireturn, 1) := by decide +kernel
theorem dX6_costs_0 : decode cX6_costs 0 = .ok (.aload_n 0, 1) := by decide +kernel
theorem dX6_costs_1 : decode cX6_costs 1 = .ok (.getfield 7, 3) := by decide +kernel
theorem dX6_costs_4 : decode cX6_costs 4 = .ok (.iload_n 1, 1) := by decide +kernel
theorem dX6_costs_5 : decode cX6_costs 5 = .ok (.iload_n 2, 1) := by decide +kernel
theorem dX6_costs_6 : decode cX6_costs 6 = .ok (.iconst 3, 1) := by decide +kernel
theorem dX6_costs_7 : decode cX6_costs 7 = .ok (.idiv, 1) := by decide +kernel
theorem dX6_costs_8 : decode cX6_costs 8 = .ok (.iadd, 1) := by decide +kernel
theorem dX6_costs_9 : decode cX6_costs 9 = .ok (.iaload, 1) := by decide +kernel
theorem dX6_costs_10 : decode cX6_costs 10 = .ok (.istore 5, 2) := by decide +kernel
theorem dX6_costs_12 : decode cX6_costs 12 = .ok (.aload_n 0, 1) := by decide +kernel
theorem dX6_costs_13 : decode cX6_costs 13 = .ok (.getfield 7, 3) := by decide +kernel
theorem dX6_costs_16 : decode cX6_costs 16 = .ok (.iload_n 1, 1) := by decide +kernel
theorem dX6_costs_17 : decode cX6_costs 17 = .ok (.iconst 4, 1) := by decide +kernel
theorem dX6_costs_18 : decode cX6_costs 18 = .ok (.iadd, 1) := by decide +kernel
theorem dX6_costs_19 : decode cX6_costs 19 = .ok (.iload_n 2, 1) := by decide +kernel
theorem dX6_costs_20 : decode cX6_costs 20 = .ok (.iconst 3, 1) := by decide +kernel
theorem dX6_costs_21 : decode cX6_costs 21 = .ok (.idiv, 1) := by decide +kernel
theorem dX6_costs_22 : decode cX6_costs 22 = .ok (.iadd, 1) := by decide +kernel
theorem dX6_costs_23 : decode cX6_costs 23 = .ok (.iaload, 1) := by decide +kernel
theorem dX6_costs_24 : decode cX6_costs 24 = .ok (.istore 6, 2) := by decide +kernel
theorem dX6_costs_26 : decode cX6_costs 26 = .ok (.iload_n 2, 1) := by decide +kernel
theorem dX6_costs_27 : decode cX6_costs 27 = .ok (.iconst 3, 1) := by decide +kernel
theorem dX6_costs_28 : decode cX6_costs 28 = .ok (.irem, 1) := by decide +kernel
theorem dX6_costs_29 : decode cX6_costs 29 = .ok (.istore 7, 2) := by decide +kernel
theorem dX6_costs_31 : decode cX6_costs 31 = .ok (.iload 7, 2) := by decide +kernel
theorem dX6_costs_33 : decode cX6_costs 33 = .ok (.iconst 1, 1) := by decide +kernel
theorem dX6_costs_34 : decode cX6_costs 34 = .ok (.if_icmp .eq 8, 3) := by decide +kernel
theorem dX6_costs_37 : decode cX6_costs 37 = .ok (.iload 4, 2) := by decide +kernel
theorem dX6_costs_39 : decode cX6_costs 39 = .ok (.goto 39, 3) := by decide +kernel
theorem dX6_costs_42 : decode cX6_costs 42 = .ok (.iload 5, 2) := by decide +kernel
theorem dX6_costs_44 : decode cX6_costs 44 = .ok (.iload 4, 2) := by decide +kernel
theorem dX6_costs_46 : decode cX6_costs 46 = .ok (.imul, 1) := by decide +kernel
theorem dX6_costs_47 : decode cX6_costs 47 = .ok (.iload 6, 2) := by decide +kernel
theorem dX6_costs_49 : decode cX6_costs 49 = .ok (.iadd, 1) := by decide +kernel
theorem dX6_costs_50 : decode cX6_costs 50 = .ok (.iconst 1, 1) := by decide +kernel
theorem dX6_costs_51 : decode cX6_costs 51 = .ok (.isub, 1) := by decide +kernel
theorem dX6_costs_52 : decode cX6_costs 52 = .ok (.iload 6, 2) := by decide +kernel
theorem dX6_costs_54 : decode cX6_costs 54 = .ok (.idiv, 1) := by decide +kernel
theorem dX6_costs_55 : decode cX6_costs 55 = .ok (.iload 5, 2) := by decide +kernel
theorem dX6_costs_57 : decode cX6_costs 57 = .ok (.if_icmp .ge 19, 3) := by decide +kernel
theorem dX6_costs_60 : decode cX6_costs 60 = .ok (.iload 5, 2) := by decide +kernel
theorem dX6_costs_62 : decode cX6_costs 62 = .ok (.iload 4, 2) := by decide +kernel
theorem dX6_costs_64 : decode cX6_costs 64 = .ok (.imul, 1) := by decide +kernel
theorem dX6_costs_65 : decode cX6_costs 65 = .ok (.iload 6, 2) := by decide +kernel
theorem dX6_costs_67 : decode cX6_costs 67 = .ok (.iadd, 1) := by decide +kernel
theorem dX6_costs_68 : decode cX6_costs 68 = .ok (.iconst 1, 1) := by decide +kernel
theorem dX6_costs_69 : decode cX6_costs 69 = .ok (.isub, 1) := by decide +kernel
theorem dX6_costs_70 : decode cX6_costs 70 = .ok (.iload 6, 2) := by decide +kernel
theorem dX6_costs_72 : decode cX6_costs 72 = .ok (.idiv, 1) := by decide +kernel
theorem dX6_costs_73 : decode cX6_costs 73 = .ok (.goto 5, 3) := by decide +kernel
theorem dX6_costs_76 : decode cX6_costs 76 = .ok (.iload 5, 2) := by decide +kernel
theorem dX6_costs_78 : decode cX6_costs 78 = .ok (.istore 8, 2) := by decide +kernel
theorem dX6_costs_80 : decode cX6_costs 80 = .ok (.iload_n 3, 1) := by decide +kernel
theorem dX6_costs_81 : decode cX6_costs 81 = .ok (.ifCond .ne 27, 3) := by decide +kernel
theorem dX6_costs_84 : decode cX6_costs 84 = .ok (.iload 5, 2) := by decide +kernel
theorem dX6_costs_86 : decode cX6_costs 86 = .ok (.iload 7, 2) := by decide +kernel
theorem dX6_costs_88 : decode cX6_costs 88 = .ok (.iconst 2, 1) := by decide +kernel
theorem dX6_costs_89 : decode cX6_costs 89 = .ok (.if_icmp .ne 14, 3) := by decide +kernel
theorem dX6_costs_92 : decode cX6_costs 92 = .ok (.iload 4, 2) := by decide +kernel
theorem dX6_costs_94 : decode cX6_costs 94 = .ok (.iload 4, 2) := by decide +kernel
theorem dX6_costs_96 : decode cX6_costs 96 = .ok (.invokestatic 29, 3) := by decide +kernel
theorem dX6_costs_99 : decode cX6_costs 99 = .ok (.imul, 1) := by decide +kernel
theorem dX6_costs_100 : decode cX6_costs 100 = .ok (.goto 4, 3) := by decide +kernel
theorem dX6_costs_103 : decode cX6_costs 103 = .ok (.iconst 0, 1) := by decide +kernel
theorem dX6_costs_104 : decode cX6_costs 104 = .ok (.iadd, 1) := by decide +kernel
theorem dX6_costs_105 : decode cX6_costs 105 = .ok (.goto 56, 3) := by decide +kernel
theorem dX6_costs_108 : decode cX6_costs 108 = .ok (.iload_n 3, 1) := by decide +kernel
theorem dX6_costs_109 : decode cX6_costs 109 = .ok (.iconst 1, 1) := by decide +kernel
theorem dX6_costs_110 : decode cX6_costs 110 = .ok (.if_icmp .ne 27, 3) := by decide +kernel
theorem dX6_costs_113 : decode cX6_costs 113 = .ok (.iload 5, 2) := by decide +kernel
theorem dX6_costs_115 : decode cX6_costs 115 = .ok (.invokestatic 29, 3) := by decide +kernel
theorem dX6_costs_118 : decode cX6_costs 118 = .ok (.iload 7, 2) := by decide +kernel
theorem dX6_costs_120 : decode cX6_costs 120 = .ok (.iconst 2, 1) := by decide +kernel
theorem dX6_costs_121 : decode cX6_costs 121 = .ok (.if_icmp .ne 8, 3) := by decide +kernel
theorem dX6_costs_124 : decode cX6_costs 124 = .ok (.iload 8, 2) := by decide +kernel
theorem dX6_costs_126 : decode cX6_costs 126 = .ok (.goto 7, 3) := by decide +kernel
theorem dX6_costs_129 : decode cX6_costs 129 = .ok (.iconst 3, 1) := by decide +kernel
theorem dX6_costs_130 : decode cX6_costs 130 = .ok (.iload 8, 2) := by decide +kernel
theorem dX6_costs_132 : decode cX6_costs 132 = .ok (.imul, 1) := by decide +kernel
theorem dX6_costs_133 : decode cX6_costs 133 = .ok (.iadd, 1) := by decide +kernel
theorem dX6_costs_134 : decode cX6_costs 134 = .ok (.goto 27, 3) := by decide +kernel
theorem dX6_costs_137 : decode cX6_costs 137 = .ok (.iload 7, 2) := by decide +kernel
theorem dX6_costs_139 : decode cX6_costs 139 = .ok (.iconst 2, 1) := by decide +kernel
theorem dX6_costs_140 : decode cX6_costs 140 = .ok (.if_icmp .ne 17, 3) := by decide +kernel
theorem dX6_costs_143 : decode cX6_costs 143 = .ok (.iload 5, 2) := by decide +kernel
theorem dX6_costs_145 : decode cX6_costs 145 = .ok (.iload 4, 2) := by decide +kernel
theorem dX6_costs_147 : decode cX6_costs 147 = .ok (.iload 5, 2) := by decide +kernel
theorem dX6_costs_149 : decode cX6_costs 149 = .ok (.invokestatic 29, 3) := by decide +kernel
theorem dX6_costs_152 : decode cX6_costs 152 = .ok (.imul, 1) := by decide +kernel
theorem dX6_costs_153 : decode cX6_costs 153 = .ok (.iadd, 1) := by decide +kernel
theorem dX6_costs_154 : decode cX6_costs 154 = .ok (.goto 7, 3) := by decide +kernel
theorem dX6_costs_157 : decode cX6_costs 157 = .ok (.iconst 2, 1) := by decide +kernel
theorem dX6_costs_158 : decode cX6_costs 158 = .ok (.iload 5, 2) := by decide +kernel
theorem dX6_costs_160 : decode cX6_costs 160 = .ok (.imul, 1) := by decide +kernel
theorem dX6_costs_161 : decode cX6_costs 161 = .ok (.istore 9, 2) := by decide +kernel
theorem dX6_costs_163 : decode cX6_costs 163 = .ok (.iload 9, 2) := by decide +kernel
theorem dX6_costs_165 : decode cX6_costs 165 = .ok (.ldc 33, 2) := by decide +kernel
theorem dX6_costs_167 : decode cX6_costs 167 = .ok (.if_icmp .ge 8, 3) := by decide +kernel
theorem dX6_costs_170 : decode cX6_costs 170 = .ok (.iload 9, 2) := by decide +kernel
theorem dX6_costs_172 : decode cX6_costs 172 = .ok (.goto 5, 3) := by decide +kernel
theorem dX6_costs_175 : decode cX6_costs 175 = .ok (.ldc 33, 2) := by decide +kernel
theorem dX6_costs_177 : decode cX6_costs 177 = .ok (.ireturn, 1) := by decide +kernel
theorem dX6_cheapestOf_0 : decode cX6_cheapestOf 0 = .ok (.iconst 0, 1) := by decide +kernel
theorem dX6_cheapestOf_1 : decode cX6_cheapestOf 1 = .ok (.istore 4, 2) := by decide +kernel
theorem dX6_cheapestOf_3 : decode cX6_cheapestOf 3 = .ok (.iconst 1, 1) := by decide +kernel
theorem dX6_cheapestOf_4 : decode cX6_cheapestOf 4 = .ok (.istore 5, 2) := by decide +kernel
theorem dX6_cheapestOf_6 : decode cX6_cheapestOf 6 = .ok (.iload 5, 2) := by decide +kernel
theorem dX6_cheapestOf_8 : decode cX6_cheapestOf 8 = .ok (.iconst 3, 1) := by decide +kernel
theorem dX6_cheapestOf_9 : decode cX6_cheapestOf 9 = .ok (.if_icmp .ge 39, 3) := by decide +kernel
theorem dX6_cheapestOf_12 : decode cX6_cheapestOf 12 = .ok (.aload_n 0, 1) := by decide +kernel
theorem dX6_cheapestOf_13 : decode cX6_cheapestOf 13 = .ok (.iload_n 1, 1) := by decide +kernel
theorem dX6_cheapestOf_14 : decode cX6_cheapestOf 14 = .ok (.iload_n 2, 1) := by decide +kernel
theorem dX6_cheapestOf_15 : decode cX6_cheapestOf 15 = .ok (.iload 5, 2) := by decide +kernel
theorem dX6_cheapestOf_17 : decode cX6_cheapestOf 17 = .ok (.iload_n 3, 1) := by decide +kernel
theorem dX6_cheapestOf_18 : decode cX6_cheapestOf 18 = .ok (.invokevirtual 34, 3) := by decide +kernel
theorem dX6_cheapestOf_21 : decode cX6_cheapestOf 21 = .ok (.aload_n 0, 1) := by decide +kernel
theorem dX6_cheapestOf_22 : decode cX6_cheapestOf 22 = .ok (.iload_n 1, 1) := by decide +kernel
theorem dX6_cheapestOf_23 : decode cX6_cheapestOf 23 = .ok (.iload_n 2, 1) := by decide +kernel
theorem dX6_cheapestOf_24 : decode cX6_cheapestOf 24 = .ok (.iload 4, 2) := by decide +kernel
theorem dX6_cheapestOf_26 : decode cX6_cheapestOf 26 = .ok (.iload_n 3, 1) := by decide +kernel
theorem dX6_cheapestOf_27 : decode cX6_cheapestOf 27 = .ok (.invokevirtual 34, 3) := by decide +kernel
theorem dX6_cheapestOf_30 : decode cX6_cheapestOf 30 = .ok (.if_icmp .ge 8, 3) := by decide +kernel
theorem dX6_cheapestOf_33 : decode cX6_cheapestOf 33 = .ok (.iload 5, 2) := by decide +kernel
theorem dX6_cheapestOf_35 : decode cX6_cheapestOf 35 = .ok (.goto 5, 3) := by decide +kernel
theorem dX6_cheapestOf_38 : decode cX6_cheapestOf 38 = .ok (.iload 4, 2) := by decide +kernel
theorem dX6_cheapestOf_40 : decode cX6_cheapestOf 40 = .ok (.istore 4, 2) := by decide +kernel
theorem dX6_cheapestOf_42 : decode cX6_cheapestOf 42 = .ok (.iinc 5 1, 3) := by decide +kernel
theorem dX6_cheapestOf_45 : decode cX6_cheapestOf 45 = .ok (.goto (-39), 3) := by decide +kernel
theorem dX6_cheapestOf_48 : decode cX6_cheapestOf 48 = .ok (.iload 4, 2) := by decide +kernel
theorem dX6_cheapestOf_50 : decode cX6_cheapestOf 50 = .ok (.ireturn, 1) := by decide +kernel
theorem dX6_kept_0 : decode cX6_kept 0 = .ok (.iconst 0, 1) := by decide +kernel
theorem dX6_kept_1 : decode cX6_kept 1 = .ok (.istore_n 2, 1) := by decide +kernel
theorem dX6_kept_2 : decode cX6_kept 2 = .ok (.iconst 0, 1) := by decide +kernel
theorem dX6_kept_3 : decode cX6_kept 3 = .ok (.istore_n 3, 1) := by decide +kernel
theorem dX6_kept_4 : decode cX6_kept 4 = .ok (.iload_n 3, 1) := by decide +kernel
theorem dX6_kept_5 : decode cX6_kept 5 = .ok (.bipush 12, 2) := by decide +kernel
theorem dX6_kept_7 : decode cX6_kept 7 = .ok (.if_icmp .ge 22, 3) := by decide +kernel
theorem dX6_kept_10 : decode cX6_kept 10 = .ok (.iload_n 2, 1) := by decide +kernel
theorem dX6_kept_11 : decode cX6_kept 11 = .ok (.aload_n 0, 1) := by decide +kernel
theorem dX6_kept_12 : decode cX6_kept 12 = .ok (.getfield 7, 3) := by decide +kernel
theorem dX6_kept_15 : decode cX6_kept 15 = .ok (.iload_n 1, 1) := by decide +kernel
theorem dX6_kept_16 : decode cX6_kept 16 = .ok (.iload_n 3, 1) := by decide +kernel
theorem dX6_kept_17 : decode cX6_kept 17 = .ok (.invokestatic 38, 3) := by decide +kernel
theorem dX6_kept_20 : decode cX6_kept 20 = .ok (.iaload, 1) := by decide +kernel
theorem dX6_kept_21 : decode cX6_kept 21 = .ok (.iadd, 1) := by decide +kernel
theorem dX6_kept_22 : decode cX6_kept 22 = .ok (.istore_n 2, 1) := by decide +kernel
theorem dX6_kept_23 : decode cX6_kept 23 = .ok (.iinc 3 1, 3) := by decide +kernel
theorem dX6_kept_26 : decode cX6_kept 26 = .ok (.goto (-22), 3) := by decide +kernel
theorem dX6_kept_29 : decode cX6_kept 29 = .ok (.iload_n 2, 1) := by decide +kernel
theorem dX6_kept_30 : decode cX6_kept 30 = .ok (.ireturn, 1) := by decide +kernel
theorem dX6_isChanged_0 : decode cX6_isChanged 0 = .ok (.iload_n 1, 1) := by decide +kernel
theorem dX6_isChanged_1 : decode cX6_isChanged 1 = .ok (.iload_n 2, 1) := by decide +kernel
theorem dX6_isChanged_2 : decode cX6_isChanged 2 = .ok (.invokestatic 38, 3) := by decide +kernel
theorem dX6_isChanged_5 : decode cX6_isChanged 5 = .ok (.istore_n 3, 1) := by decide +kernel
theorem dX6_isChanged_6 : decode cX6_isChanged 6 = .ok (.aload_n 0, 1) := by decide +kernel
theorem dX6_isChanged_7 : decode cX6_isChanged 7 = .ok (.getfield 7, 3) := by decide +kernel
theorem dX6_isChanged_10 : decode cX6_isChanged 10 = .ok (.iload_n 1, 1) := by decide +kernel
theorem dX6_isChanged_11 : decode cX6_isChanged 11 = .ok (.iload_n 2, 1) := by decide +kernel
theorem dX6_isChanged_12 : decode cX6_isChanged 12 = .ok (.iconst 3, 1) := by decide +kernel
theorem dX6_isChanged_13 : decode cX6_isChanged 13 = .ok (.idiv, 1) := by decide +kernel
theorem dX6_isChanged_14 : decode cX6_isChanged 14 = .ok (.iadd, 1) := by decide +kernel
theorem dX6_isChanged_15 : decode cX6_isChanged 15 = .ok (.iaload, 1) := by decide +kernel
theorem dX6_isChanged_16 : decode cX6_isChanged 16 = .ok (.aload_n 0, 1) := by decide +kernel
theorem dX6_isChanged_17 : decode cX6_isChanged 17 = .ok (.getfield 7, 3) := by decide +kernel
theorem dX6_isChanged_20 : decode cX6_isChanged 20 = .ok (.iload_n 3, 1) := by decide +kernel
theorem dX6_isChanged_21 : decode cX6_isChanged 21 = .ok (.bipush 10, 2) := by decide +kernel
theorem dX6_isChanged_23 : decode cX6_isChanged 23 = .ok (.iadd, 1) := by decide +kernel
theorem dX6_isChanged_24 : decode cX6_isChanged 24 = .ok (.iaload, 1) := by decide +kernel
theorem dX6_isChanged_25 : decode cX6_isChanged 25 = .ok (.isub, 1) := by decide +kernel
theorem dX6_isChanged_26 : decode cX6_isChanged 26 = .ok (.istore 4, 2) := by decide +kernel
theorem dX6_isChanged_28 : decode cX6_isChanged 28 = .ok (.iload 4, 2) := by decide +kernel
theorem dX6_isChanged_30 : decode cX6_isChanged 30 = .ok (.ifCond .ge 9, 3) := by decide +kernel
theorem dX6_isChanged_33 : decode cX6_isChanged 33 = .ok (.iload 4, 2) := by decide +kernel
theorem dX6_isChanged_35 : decode cX6_isChanged 35 = .ok (.ineg, 1) := by decide +kernel
theorem dX6_isChanged_36 : decode cX6_isChanged 36 = .ok (.goto 5, 3) := by decide +kernel
theorem dX6_isChanged_39 : decode cX6_isChanged 39 = .ok (.iload 4, 2) := by decide +kernel
theorem dX6_isChanged_41 : decode cX6_isChanged 41 = .ok (.aload_n 0, 1) := by decide +kernel
theorem dX6_isChanged_42 : decode cX6_isChanged 42 = .ok (.getfield 7, 3) := by decide +kernel
theorem dX6_isChanged_45 : decode cX6_isChanged 45 = .ok (.iload_n 3, 1) := by decide +kernel
theorem dX6_isChanged_46 : decode cX6_isChanged 46 = .ok (.bipush 10, 2) := by decide +kernel
theorem dX6_isChanged_48 : decode cX6_isChanged 48 = .ok (.iadd, 1) := by decide +kernel
theorem dX6_isChanged_49 : decode cX6_isChanged 49 = .ok (.iaload, 1) := by decide +kernel
theorem dX6_isChanged_50 : decode cX6_isChanged 50 = .ok (.iconst 2, 1) := by decide +kernel
theorem dX6_isChanged_51 : decode cX6_isChanged 51 = .ok (.idiv, 1) := by decide +kernel
theorem dX6_isChanged_52 : decode cX6_isChanged 52 = .ok (.if_icmp .le 7, 3) := by decide +kernel
theorem dX6_isChanged_55 : decode cX6_isChanged 55 = .ok (.iconst 1, 1) := by decide +kernel
theorem dX6_isChanged_56 : decode cX6_isChanged 56 = .ok (.goto 4, 3) := by decide +kernel
theorem dX6_isChanged_59 : decode cX6_isChanged 59 = .ok (.iconst 0, 1) := by decide +kernel
theorem dX6_isChanged_60 : decode cX6_isChanged 60 = .ok (.ireturn, 1) := by decide +kernel
theorem dX6_age_0 : decode cX6_age 0 = .ok (.aload_n 0, 1) := by decide +kernel
theorem dX6_age_1 : decode cX6_age 1 = .ok (.getfield 7, 3) := by decide +kernel
theorem dX6_age_4 : decode cX6_age 4 = .ok (.iload_n 1, 1) := by decide +kernel
theorem dX6_age_5 : decode cX6_age 5 = .ok (.sipush 145, 3) := by decide +kernel
theorem dX6_age_8 : decode cX6_age 8 = .ok (.iadd, 1) := by decide +kernel
theorem dX6_age_9 : decode cX6_age 9 = .ok (.iaload, 1) := by decide +kernel
theorem dX6_age_10 : decode cX6_age 10 = .ok (.aload_n 0, 1) := by decide +kernel
theorem dX6_age_11 : decode cX6_age 11 = .ok (.getfield 7, 3) := by decide +kernel
theorem dX6_age_14 : decode cX6_age 14 = .ok (.iload_n 1, 1) := by decide +kernel
theorem dX6_age_15 : decode cX6_age 15 = .ok (.iload_n 2, 1) := by decide +kernel
theorem dX6_age_16 : decode cX6_age 16 = .ok (.invokestatic 38, 3) := by decide +kernel
theorem dX6_age_19 : decode cX6_age 19 = .ok (.bipush 6, 2) := by decide +kernel
theorem dX6_age_21 : decode cX6_age 21 = .ok (.iadd, 1) := by decide +kernel
theorem dX6_age_22 : decode cX6_age 22 = .ok (.iaload, 1) := by decide +kernel
theorem dX6_age_23 : decode cX6_age 23 = .ok (.isub, 1) := by decide +kernel
theorem dX6_age_24 : decode cX6_age 24 = .ok (.ireturn, 1) := by decide +kernel
theorem dX6_isOld_0 : decode cX6_isOld 0 = .ok (.aload_n 0, 1) := by decide +kernel
theorem dX6_isOld_1 : decode cX6_isOld 1 = .ok (.iload_n 1, 1) := by decide +kernel
theorem dX6_isOld_2 : decode cX6_isOld 2 = .ok (.iload_n 2, 1) := by decide +kernel
theorem dX6_isOld_3 : decode cX6_isOld 3 = .ok (.invokevirtual 42, 3) := by decide +kernel
theorem dX6_isOld_6 : decode cX6_isOld 6 = .ok (.aload_n 0, 1) := by decide +kernel
theorem dX6_isOld_7 : decode cX6_isOld 7 = .ok (.getfield 7, 3) := by decide +kernel
theorem dX6_isOld_10 : decode cX6_isOld 10 = .ok (.iload_n 1, 1) := by decide +kernel
theorem dX6_isOld_11 : decode cX6_isOld 11 = .ok (.bipush 8, 2) := by decide +kernel
theorem dX6_isOld_13 : decode cX6_isOld 13 = .ok (.iadd, 1) := by decide +kernel
theorem dX6_isOld_14 : decode cX6_isOld 14 = .ok (.iconst 2, 1) := by decide +kernel
theorem dX6_isOld_15 : decode cX6_isOld 15 = .ok (.iadd, 1) := by decide +kernel
theorem dX6_isOld_16 : decode cX6_isOld 16 = .ok (.iaload, 1) := by decide +kernel
theorem dX6_isOld_17 : decode cX6_isOld 17 = .ok (.if_icmp .le 7, 3) := by decide +kernel
theorem dX6_isOld_20 : decode cX6_isOld 20 = .ok (.iconst 1, 1) := by decide +kernel
theorem dX6_isOld_21 : decode cX6_isOld 21 = .ok (.goto 4, 3) := by decide +kernel
theorem dX6_isOld_24 : decode cX6_isOld 24 = .ok (.iconst 0, 1) := by decide +kernel
theorem dX6_isOld_25 : decode cX6_isOld 25 = .ok (.ireturn, 1) := by decide +kernel
theorem dX6_why_0 : decode cX6_why 0 = .ok (.iload_n 1, 1) := by decide +kernel
theorem dX6_why_1 : decode cX6_why 1 = .ok (.iload_n 2, 1) := by decide +kernel
theorem dX6_why_2 : decode cX6_why 2 = .ok (.invokestatic 38, 3) := by decide +kernel
theorem dX6_why_5 : decode cX6_why 5 = .ok (.istore 4, 2) := by decide +kernel
theorem dX6_why_7 : decode cX6_why 7 = .ok (.aload_n 0, 1) := by decide +kernel
theorem dX6_why_8 : decode cX6_why 8 = .ok (.getfield 7, 3) := by decide +kernel
theorem dX6_why_11 : decode cX6_why 11 = .ok (.iload 4, 2) := by decide +kernel
theorem dX6_why_13 : decode cX6_why 13 = .ok (.iaload, 1) := by decide +kernel
theorem dX6_why_14 : decode cX6_why 14 = .ok (.ifCond .ne 7, 3) := by decide +kernel
theorem dX6_why_17 : decode cX6_why 17 = .ok (.iconst 1, 1) := by decide +kernel
theorem dX6_why_18 : decode cX6_why 18 = .ok (.goto 64, 3) := by decide +kernel
theorem dX6_why_21 : decode cX6_why 21 = .ok (.iload_n 3, 1) := by decide +kernel
theorem dX6_why_22 : decode cX6_why 22 = .ok (.aload_n 0, 1) := by decide +kernel
theorem dX6_why_23 : decode cX6_why 23 = .ok (.getfield 7, 3) := by decide +kernel
theorem dX6_why_26 : decode cX6_why 26 = .ok (.iload 4, 2) := by decide +kernel
theorem dX6_why_28 : decode cX6_why 28 = .ok (.iconst 2, 1) := by decide +kernel
theorem dX6_why_29 : decode cX6_why 29 = .ok (.iadd, 1) := by decide +kernel
theorem dX6_why_30 : decode cX6_why 30 = .ok (.iaload, 1) := by decide +kernel
theorem dX6_why_31 : decode cX6_why 31 = .ok (.if_icmp .ge 7, 3) := by decide +kernel
theorem dX6_why_34 : decode cX6_why 34 = .ok (.iconst 2, 1) := by decide +kernel
theorem dX6_why_35 : decode cX6_why 35 = .ok (.goto 47, 3) := by decide +kernel
theorem dX6_why_38 : decode cX6_why 38 = .ok (.iload_n 3, 1) := by decide +kernel
theorem dX6_why_39 : decode cX6_why 39 = .ok (.aload_n 0, 1) := by decide +kernel
theorem dX6_why_40 : decode cX6_why 40 = .ok (.getfield 7, 3) := by decide +kernel
theorem dX6_why_43 : decode cX6_why 43 = .ok (.iload 4, 2) := by decide +kernel
theorem dX6_why_45 : decode cX6_why 45 = .ok (.iconst 3, 1) := by decide +kernel
theorem dX6_why_46 : decode cX6_why 46 = .ok (.iadd, 1) := by decide +kernel
theorem dX6_why_47 : decode cX6_why 47 = .ok (.iaload, 1) := by decide +kernel
theorem dX6_why_48 : decode cX6_why 48 = .ok (.if_icmp .le 7, 3) := by decide +kernel
theorem dX6_why_51 : decode cX6_why 51 = .ok (.iconst 3, 1) := by decide +kernel
theorem dX6_why_52 : decode cX6_why 52 = .ok (.goto 30, 3) := by decide +kernel
theorem dX6_why_55 : decode cX6_why 55 = .ok (.aload_n 0, 1) := by decide +kernel
theorem dX6_why_56 : decode cX6_why 56 = .ok (.iload_n 1, 1) := by decide +kernel
theorem dX6_why_57 : decode cX6_why 57 = .ok (.iload_n 2, 1) := by decide +kernel
theorem dX6_why_58 : decode cX6_why 58 = .ok (.invokevirtual 45, 3) := by decide +kernel
theorem dX6_why_61 : decode cX6_why 61 = .ok (.ifCond .eq 7, 3) := by decide +kernel
theorem dX6_why_64 : decode cX6_why 64 = .ok (.iconst 4, 1) := by decide +kernel
theorem dX6_why_65 : decode cX6_why 65 = .ok (.goto 17, 3) := by decide +kernel
theorem dX6_why_68 : decode cX6_why 68 = .ok (.aload_n 0, 1) := by decide +kernel
theorem dX6_why_69 : decode cX6_why 69 = .ok (.iload_n 1, 1) := by decide +kernel
theorem dX6_why_70 : decode cX6_why 70 = .ok (.iload_n 2, 1) := by decide +kernel
theorem dX6_why_71 : decode cX6_why 71 = .ok (.invokevirtual 49, 3) := by decide +kernel
theorem dX6_why_74 : decode cX6_why 74 = .ok (.ifCond .eq 7, 3) := by decide +kernel
theorem dX6_why_77 : decode cX6_why 77 = .ok (.iconst 5, 1) := by decide +kernel
theorem dX6_why_78 : decode cX6_why 78 = .ok (.goto 4, 3) := by decide +kernel
theorem dX6_why_81 : decode cX6_why 81 = .ok (.iconst 0, 1) := by decide +kernel
theorem dX6_why_82 : decode cX6_why 82 = .ok (.ireturn, 1) := by decide +kernel
theorem dX6_oldestOf_0 : decode cX6_oldestOf 0 = .ok (.bipush (-4), 2) := by decide +kernel
theorem dX6_oldestOf_2 : decode cX6_oldestOf 2 = .ok (.istore_n 2, 1) := by decide +kernel
theorem dX6_oldestOf_3 : decode cX6_oldestOf 3 = .ok (.bipush 11, 2) := by decide +kernel
theorem dX6_oldestOf_5 : decode cX6_oldestOf 5 = .ok (.istore_n 3, 1) := by decide +kernel
theorem dX6_oldestOf_6 : decode cX6_oldestOf 6 = .ok (.iload_n 3, 1) := by decide +kernel
theorem dX6_oldestOf_7 : decode cX6_oldestOf 7 = .ok (.ifCond .lt 88, 3) := by decide +kernel
theorem dX6_oldestOf_10 : decode cX6_oldestOf 10 = .ok (.iload_n 1, 1) := by decide +kernel
theorem dX6_oldestOf_11 : decode cX6_oldestOf 11 = .ok (.iload_n 3, 1) := by decide +kernel
theorem dX6_oldestOf_12 : decode cX6_oldestOf 12 = .ok (.invokestatic 38, 3) := by decide +kernel
theorem dX6_oldestOf_15 : decode cX6_oldestOf 15 = .ok (.istore 4, 2) := by decide +kernel
theorem dX6_oldestOf_17 : decode cX6_oldestOf 17 = .ok (.aload_n 0, 1) := by decide +kernel
theorem dX6_oldestOf_18 : decode cX6_oldestOf 18 = .ok (.getfield 7, 3) := by decide +kernel
theorem dX6_oldestOf_21 : decode cX6_oldestOf 21 = .ok (.iload 4, 2) := by decide +kernel
theorem dX6_oldestOf_23 : decode cX6_oldestOf 23 = .ok (.iaload, 1) := by decide +kernel
theorem dX6_oldestOf_24 : decode cX6_oldestOf 24 = .ok (.iconst 1, 1) := by decide +kernel
theorem dX6_oldestOf_25 : decode cX6_oldestOf 25 = .ok (.if_icmp .ne 20, 3) := by decide +kernel
theorem dX6_oldestOf_28 : decode cX6_oldestOf 28 = .ok (.aload_n 0, 1) := by decide +kernel
theorem dX6_oldestOf_29 : decode cX6_oldestOf 29 = .ok (.getfield 7, 3) := by decide +kernel
theorem dX6_oldestOf_32 : decode cX6_oldestOf 32 = .ok (.iload 4, 2) := by decide +kernel
theorem dX6_oldestOf_34 : decode cX6_oldestOf 34 = .ok (.bipush 8, 2) := by decide +kernel
theorem dX6_oldestOf_36 : decode cX6_oldestOf 36 = .ok (.iadd, 1) := by decide +kernel
theorem dX6_oldestOf_37 : decode cX6_oldestOf 37 = .ok (.iaload, 1) := by decide +kernel
theorem dX6_oldestOf_38 : decode cX6_oldestOf 38 = .ok (.ifCond .ne 7, 3) := by decide +kernel
theorem dX6_oldestOf_41 : decode cX6_oldestOf 41 = .ok (.iconst 1, 1) := by decide +kernel
theorem dX6_oldestOf_42 : decode cX6_oldestOf 42 = .ok (.goto 4, 3) := by decide +kernel
theorem dX6_oldestOf_45 : decode cX6_oldestOf 45 = .ok (.iconst 0, 1) := by decide +kernel
theorem dX6_oldestOf_46 : decode cX6_oldestOf 46 = .ok (.istore 5, 2) := by decide +kernel
theorem dX6_oldestOf_48 : decode cX6_oldestOf 48 = .ok (.iload 5, 2) := by decide +kernel
theorem dX6_oldestOf_50 : decode cX6_oldestOf 50 = .ok (.ifCond .eq 37, 3) := by decide +kernel
theorem dX6_oldestOf_53 : decode cX6_oldestOf 53 = .ok (.iload_n 2, 1) := by decide +kernel
theorem dX6_oldestOf_54 : decode cX6_oldestOf 54 = .ok (.ifCond .lt 29, 3) := by decide +kernel
theorem dX6_oldestOf_57 : decode cX6_oldestOf 57 = .ok (.aload_n 0, 1) := by decide +kernel
theorem dX6_oldestOf_58 : decode cX6_oldestOf 58 = .ok (.getfield 7, 3) := by decide +kernel
theorem dX6_oldestOf_61 : decode cX6_oldestOf 61 = .ok (.iload 4, 2) := by decide +kernel
theorem dX6_oldestOf_63 : decode cX6_oldestOf 63 = .ok (.bipush 7, 2) := by decide +kernel
theorem dX6_oldestOf_65 : decode cX6_oldestOf 65 = .ok (.iadd, 1) := by decide +kernel
theorem dX6_oldestOf_66 : decode cX6_oldestOf 66 = .ok (.iaload, 1) := by decide +kernel
theorem dX6_oldestOf_67 : decode cX6_oldestOf 67 = .ok (.aload_n 0, 1) := by decide +kernel
theorem dX6_oldestOf_68 : decode cX6_oldestOf 68 = .ok (.getfield 7, 3) := by decide +kernel
theorem dX6_oldestOf_71 : decode cX6_oldestOf 71 = .ok (.iload_n 1, 1) := by decide +kernel
theorem dX6_oldestOf_72 : decode cX6_oldestOf 72 = .ok (.iload_n 2, 1) := by decide +kernel
theorem dX6_oldestOf_73 : decode cX6_oldestOf 73 = .ok (.invokestatic 38, 3) := by decide +kernel
theorem dX6_oldestOf_76 : decode cX6_oldestOf 76 = .ok (.bipush 7, 2) := by decide +kernel
theorem dX6_oldestOf_78 : decode cX6_oldestOf 78 = .ok (.iadd, 1) := by decide +kernel
theorem dX6_oldestOf_79 : decode cX6_oldestOf 79 = .ok (.iaload, 1) := by decide +kernel
theorem dX6_oldestOf_80 : decode cX6_oldestOf 80 = .ok (.if_icmp .gt 7, 3) := by decide +kernel
theorem dX6_oldestOf_83 : decode cX6_oldestOf 83 = .ok (.iload_n 3, 1) := by decide +kernel
theorem dX6_oldestOf_84 : decode cX6_oldestOf 84 = .ok (.goto 4, 3) := by decide +kernel
theorem dX6_oldestOf_87 : decode cX6_oldestOf 87 = .ok (.iload_n 2, 1) := by decide +kernel
theorem dX6_oldestOf_88 : decode cX6_oldestOf 88 = .ok (.istore_n 2, 1) := by decide +kernel
theorem dX6_oldestOf_89 : decode cX6_oldestOf 89 = .ok (.iinc 3 (-1), 3) := by decide +kernel
theorem dX6_oldestOf_92 : decode cX6_oldestOf 92 = .ok (.goto (-86), 3) := by decide +kernel
theorem dX6_oldestOf_95 : decode cX6_oldestOf 95 = .ok (.iload_n 2, 1) := by decide +kernel
theorem dX6_oldestOf_96 : decode cX6_oldestOf 96 = .ok (.ireturn, 1) := by decide +kernel
theorem dX6_throwsOldest_0 : decode cX6_throwsOldest 0 = .ok (.aload_n 0, 1) := by decide +kernel
theorem dX6_throwsOldest_1 : decode cX6_throwsOldest 1 = .ok (.iload_n 1, 1) := by decide +kernel
theorem dX6_throwsOldest_2 : decode cX6_throwsOldest 2 = .ok (.invokevirtual 52, 3) := by decide +kernel
theorem dX6_throwsOldest_5 : decode cX6_throwsOldest 5 = .ok (.istore_n 2, 1) := by decide +kernel
theorem dX6_throwsOldest_6 : decode cX6_throwsOldest 6 = .ok (.aload_n 0, 1) := by decide +kernel
theorem dX6_throwsOldest_7 : decode cX6_throwsOldest 7 = .ok (.aload_n 0, 1) := by decide +kernel
theorem dX6_throwsOldest_8 : decode cX6_throwsOldest 8 = .ok (.getfield 55, 3) := by decide +kernel
theorem dX6_throwsOldest_11 : decode cX6_throwsOldest 11 = .ok (.bipush (-4), 2) := by decide +kernel
theorem dX6_throwsOldest_13 : decode cX6_throwsOldest 13 = .ok (.if_icmp .ne 7, 3) := by decide +kernel
theorem dX6_throwsOldest_16 : decode cX6_throwsOldest 16 = .ok (.iload_n 2, 1) := by decide +kernel
theorem dX6_throwsOldest_17 : decode cX6_throwsOldest 17 = .ok (.goto 7, 3) := by decide +kernel
theorem dX6_throwsOldest_20 : decode cX6_throwsOldest 20 = .ok (.aload_n 0, 1) := by decide +kernel
theorem dX6_throwsOldest_21 : decode cX6_throwsOldest 21 = .ok (.getfield 55, 3) := by decide +kernel
theorem dX6_throwsOldest_24 : decode cX6_throwsOldest 24 = .ok (.putfield 55, 3) := by decide +kernel
theorem dX6_throwsOldest_27 : decode cX6_throwsOldest 27 = .ok (.aload_n 0, 1) := by decide +kernel
theorem dX6_throwsOldest_28 : decode cX6_throwsOldest 28 = .ok (.getfield 7, 3) := by decide +kernel
theorem dX6_throwsOldest_31 : decode cX6_throwsOldest 31 = .ok (.iload_n 1, 1) := by decide +kernel
theorem dX6_throwsOldest_32 : decode cX6_throwsOldest 32 = .ok (.iload_n 2, 1) := by decide +kernel
theorem dX6_throwsOldest_33 : decode cX6_throwsOldest 33 = .ok (.invokestatic 38, 3) := by decide +kernel
theorem dX6_throwsOldest_36 : decode cX6_throwsOldest 36 = .ok (.iconst 0, 1) := by decide +kernel
theorem dX6_throwsOldest_37 : decode cX6_throwsOldest 37 = .ok (.iastore, 1) := by decide +kernel
theorem dX6_throwsOldest_38 : decode cX6_throwsOldest 38 = .ok (.aload_n 0, 1) := by decide +kernel
theorem dX6_throwsOldest_39 : decode cX6_throwsOldest 39 = .ok (.getfield 7, 3) := by decide +kernel
theorem dX6_throwsOldest_42 : decode cX6_throwsOldest 42 = .ok (.iload_n 1, 1) := by decide +kernel
theorem dX6_throwsOldest_43 : decode cX6_throwsOldest 43 = .ok (.sipush 151, 3) := by decide +kernel
theorem dX6_throwsOldest_46 : decode cX6_throwsOldest 46 = .ok (.iadd, 1) := by decide +kernel
theorem dX6_throwsOldest_47 : decode cX6_throwsOldest 47 = .ok (.dup2, 1) := by decide +kernel
theorem dX6_throwsOldest_48 : decode cX6_throwsOldest 48 = .ok (.iaload, 1) := by decide +kernel
theorem dX6_throwsOldest_49 : decode cX6_throwsOldest 49 = .ok (.iconst 1, 1) := by decide +kernel
theorem dX6_throwsOldest_50 : decode cX6_throwsOldest 50 = .ok (.iadd, 1) := by decide +kernel
theorem dX6_throwsOldest_51 : decode cX6_throwsOldest 51 = .ok (.iastore, 1) := by decide +kernel
theorem dX6_throwsOldest_52 : decode cX6_throwsOldest 52 = .ok (.return_, 1) := by decide +kernel
theorem dX6_hasRoom_0 : decode cX6_hasRoom 0 = .ok (.aload_n 0, 1) := by decide +kernel
theorem dX6_hasRoom_1 : decode cX6_hasRoom 1 = .ok (.getfield 7, 3) := by decide +kernel
theorem dX6_hasRoom_4 : decode cX6_hasRoom 4 = .ok (.iload_n 1, 1) := by decide +kernel
theorem dX6_hasRoom_5 : decode cX6_hasRoom 5 = .ok (.iload_n 2, 1) := by decide +kernel
theorem dX6_hasRoom_6 : decode cX6_hasRoom 6 = .ok (.invokestatic 38, 3) := by decide +kernel
theorem dX6_hasRoom_9 : decode cX6_hasRoom 9 = .ok (.iaload, 1) := by decide +kernel
theorem dX6_hasRoom_10 : decode cX6_hasRoom 10 = .ok (.iconst 1, 1) := by decide +kernel
theorem dX6_hasRoom_11 : decode cX6_hasRoom 11 = .ok (.if_icmp .eq 22, 3) := by decide +kernel
theorem dX6_hasRoom_14 : decode cX6_hasRoom 14 = .ok (.aload_n 0, 1) := by decide +kernel
theorem dX6_hasRoom_15 : decode cX6_hasRoom 15 = .ok (.iload_n 1, 1) := by decide +kernel
theorem dX6_hasRoom_16 : decode cX6_hasRoom 16 = .ok (.invokevirtual 58, 3) := by decide +kernel
theorem dX6_hasRoom_19 : decode cX6_hasRoom 19 = .ok (.aload_n 0, 1) := by decide +kernel
theorem dX6_hasRoom_20 : decode cX6_hasRoom 20 = .ok (.getfield 7, 3) := by decide +kernel
theorem dX6_hasRoom_23 : decode cX6_hasRoom 23 = .ok (.iload_n 1, 1) := by decide +kernel
theorem dX6_hasRoom_24 : decode cX6_hasRoom 24 = .ok (.bipush 8, 2) := by decide +kernel
theorem dX6_hasRoom_26 : decode cX6_hasRoom 26 = .ok (.iadd, 1) := by decide +kernel
theorem dX6_hasRoom_27 : decode cX6_hasRoom 27 = .ok (.iconst 3, 1) := by decide +kernel
theorem dX6_hasRoom_28 : decode cX6_hasRoom 28 = .ok (.iadd, 1) := by decide +kernel
theorem dX6_hasRoom_29 : decode cX6_hasRoom 29 = .ok (.iaload, 1) := by decide +kernel
theorem dX6_hasRoom_30 : decode cX6_hasRoom 30 = .ok (.if_icmp .ge 5, 3) := by decide +kernel
theorem dX6_hasRoom_33 : decode cX6_hasRoom 33 = .ok (.iconst 1, 1) := by decide +kernel
theorem dX6_hasRoom_34 : decode cX6_hasRoom 34 = .ok (.ireturn, 1) := by decide +kernel
theorem dX6_hasRoom_35 : decode cX6_hasRoom 35 = .ok (.aload_n 0, 1) := by decide +kernel
theorem dX6_hasRoom_36 : decode cX6_hasRoom 36 = .ok (.iload_n 1, 1) := by decide +kernel
theorem dX6_hasRoom_37 : decode cX6_hasRoom 37 = .ok (.invokevirtual 58, 3) := by decide +kernel
theorem dX6_hasRoom_40 : decode cX6_hasRoom 40 = .ok (.aload_n 0, 1) := by decide +kernel
theorem dX6_hasRoom_41 : decode cX6_hasRoom 41 = .ok (.getfield 7, 3) := by decide +kernel
theorem dX6_hasRoom_44 : decode cX6_hasRoom 44 = .ok (.iload_n 1, 1) := by decide +kernel
theorem dX6_hasRoom_45 : decode cX6_hasRoom 45 = .ok (.bipush 8, 2) := by decide +kernel
theorem dX6_hasRoom_47 : decode cX6_hasRoom 47 = .ok (.iadd, 1) := by decide +kernel
theorem dX6_hasRoom_48 : decode cX6_hasRoom 48 = .ok (.iconst 3, 1) := by decide +kernel
theorem dX6_hasRoom_49 : decode cX6_hasRoom 49 = .ok (.iadd, 1) := by decide +kernel
theorem dX6_hasRoom_50 : decode cX6_hasRoom 50 = .ok (.iaload, 1) := by decide +kernel
theorem dX6_hasRoom_51 : decode cX6_hasRoom 51 = .ok (.if_icmp .lt 19, 3) := by decide +kernel
theorem dX6_hasRoom_54 : decode cX6_hasRoom 54 = .ok (.aload_n 0, 1) := by decide +kernel
theorem dX6_hasRoom_55 : decode cX6_hasRoom 55 = .ok (.iload_n 1, 1) := by decide +kernel
theorem dX6_hasRoom_56 : decode cX6_hasRoom 56 = .ok (.invokevirtual 52, 3) := by decide +kernel
theorem dX6_hasRoom_59 : decode cX6_hasRoom 59 = .ok (.ifCond .lt 11, 3) := by decide +kernel
theorem dX6_hasRoom_62 : decode cX6_hasRoom 62 = .ok (.aload_n 0, 1) := by decide +kernel
theorem dX6_hasRoom_63 : decode cX6_hasRoom 63 = .ok (.iload_n 1, 1) := by decide +kernel
theorem dX6_hasRoom_64 : decode cX6_hasRoom 64 = .ok (.invokevirtual 61, 3) := by decide +kernel
theorem dX6_hasRoom_67 : decode cX6_hasRoom 67 = .ok (.goto (-32), 3) := by decide +kernel
theorem dX6_hasRoom_70 : decode cX6_hasRoom 70 = .ok (.aload_n 0, 1) := by decide +kernel
theorem dX6_hasRoom_71 : decode cX6_hasRoom 71 = .ok (.iload_n 1, 1) := by decide +kernel
theorem dX6_hasRoom_72 : decode cX6_hasRoom 72 = .ok (.invokevirtual 58, 3) := by decide +kernel
theorem dX6_hasRoom_75 : decode cX6_hasRoom 75 = .ok (.aload_n 0, 1) := by decide +kernel
theorem dX6_hasRoom_76 : decode cX6_hasRoom 76 = .ok (.getfield 7, 3) := by decide +kernel
theorem dX6_hasRoom_79 : decode cX6_hasRoom 79 = .ok (.iload_n 1, 1) := by decide +kernel
theorem dX6_hasRoom_80 : decode cX6_hasRoom 80 = .ok (.bipush 8, 2) := by decide +kernel
theorem dX6_hasRoom_82 : decode cX6_hasRoom 82 = .ok (.iadd, 1) := by decide +kernel
theorem dX6_hasRoom_83 : decode cX6_hasRoom 83 = .ok (.iconst 3, 1) := by decide +kernel
theorem dX6_hasRoom_84 : decode cX6_hasRoom 84 = .ok (.iadd, 1) := by decide +kernel
theorem dX6_hasRoom_85 : decode cX6_hasRoom 85 = .ok (.iaload, 1) := by decide +kernel
theorem dX6_hasRoom_86 : decode cX6_hasRoom 86 = .ok (.if_icmp .ge 7, 3) := by decide +kernel
theorem dX6_hasRoom_89 : decode cX6_hasRoom 89 = .ok (.iconst 1, 1) := by decide +kernel
theorem dX6_hasRoom_90 : decode cX6_hasRoom 90 = .ok (.goto 4, 3) := by decide +kernel
theorem dX6_hasRoom_93 : decode cX6_hasRoom 93 = .ok (.iconst 0, 1) := by decide +kernel
theorem dX6_hasRoom_94 : decode cX6_hasRoom 94 = .ok (.ireturn, 1) := by decide +kernel
theorem dX6_lays_0 : decode cX6_lays 0 = .ok (.iload_n 1, 1) := by decide +kernel
theorem dX6_lays_1 : decode cX6_lays 1 = .ok (.iload_n 2, 1) := by decide +kernel
theorem dX6_lays_2 : decode cX6_lays 2 = .ok (.invokestatic 38, 3) := by decide +kernel
theorem dX6_lays_5 : decode cX6_lays 5 = .ok (.istore 7, 2) := by decide +kernel
theorem dX6_lays_7 : decode cX6_lays 7 = .ok (.aload_n 0, 1) := by decide +kernel
theorem dX6_lays_8 : decode cX6_lays 8 = .ok (.getfield 7, 3) := by decide +kernel
theorem dX6_lays_11 : decode cX6_lays 11 = .ok (.iload 7, 2) := by decide +kernel
theorem dX6_lays_13 : decode cX6_lays 13 = .ok (.iconst 1, 1) := by decide +kernel
theorem dX6_lays_14 : decode cX6_lays 14 = .ok (.iastore, 1) := by decide +kernel
theorem dX6_lays_15 : decode cX6_lays 15 = .ok (.aload_n 0, 1) := by decide +kernel
theorem dX6_lays_16 : decode cX6_lays 16 = .ok (.getfield 7, 3) := by decide +kernel
theorem dX6_lays_19 : decode cX6_lays 19 = .ok (.iload 7, 2) := by decide +kernel
theorem dX6_lays_21 : decode cX6_lays 21 = .ok (.iconst 1, 1) := by decide +kernel
theorem dX6_lays_22 : decode cX6_lays 22 = .ok (.iadd, 1) := by decide +kernel
theorem dX6_lays_23 : decode cX6_lays 23 = .ok (.iload_n 3, 1) := by decide +kernel
theorem dX6_lays_24 : decode cX6_lays 24 = .ok (.iastore, 1) := by decide +kernel
theorem dX6_lays_25 : decode cX6_lays 25 = .ok (.aload_n 0, 1) := by decide +kernel
theorem dX6_lays_26 : decode cX6_lays 26 = .ok (.getfield 7, 3) := by decide +kernel
theorem dX6_lays_29 : decode cX6_lays 29 = .ok (.iload 7, 2) := by decide +kernel
theorem dX6_lays_31 : decode cX6_lays 31 = .ok (.iconst 2, 1) := by decide +kernel
theorem dX6_lays_32 : decode cX6_lays 32 = .ok (.iadd, 1) := by decide +kernel
theorem dX6_lays_33 : decode cX6_lays 33 = .ok (.iload 5, 2) := by decide +kernel
theorem dX6_lays_35 : decode cX6_lays 35 = .ok (.iastore, 1) := by decide +kernel
theorem dX6_lays_36 : decode cX6_lays 36 = .ok (.aload_n 0, 1) := by decide +kernel
theorem dX6_lays_37 : decode cX6_lays 37 = .ok (.getfield 7, 3) := by decide +kernel
theorem dX6_lays_40 : decode cX6_lays 40 = .ok (.iload 7, 2) := by decide +kernel
theorem dX6_lays_42 : decode cX6_lays 42 = .ok (.iconst 3, 1) := by decide +kernel
theorem dX6_lays_43 : decode cX6_lays 43 = .ok (.iadd, 1) := by decide +kernel
theorem dX6_lays_44 : decode cX6_lays 44 = .ok (.iload 6, 2) := by decide +kernel
theorem dX6_lays_46 : decode cX6_lays 46 = .ok (.iastore, 1) := by decide +kernel
theorem dX6_lays_47 : decode cX6_lays 47 = .ok (.aload_n 0, 1) := by decide +kernel
theorem dX6_lays_48 : decode cX6_lays 48 = .ok (.getfield 7, 3) := by decide +kernel
theorem dX6_lays_51 : decode cX6_lays 51 = .ok (.iload 7, 2) := by decide +kernel
theorem dX6_lays_53 : decode cX6_lays 53 = .ok (.iconst 4, 1) := by decide +kernel
theorem dX6_lays_54 : decode cX6_lays 54 = .ok (.iadd, 1) := by decide +kernel
theorem dX6_lays_55 : decode cX6_lays 55 = .ok (.iload 4, 2) := by decide +kernel
theorem dX6_lays_57 : decode cX6_lays 57 = .ok (.iastore, 1) := by decide +kernel
theorem dX6_lays_58 : decode cX6_lays 58 = .ok (.aload_n 0, 1) := by decide +kernel
theorem dX6_lays_59 : decode cX6_lays 59 = .ok (.getfield 7, 3) := by decide +kernel
theorem dX6_lays_62 : decode cX6_lays 62 = .ok (.iload 7, 2) := by decide +kernel
theorem dX6_lays_64 : decode cX6_lays 64 = .ok (.iconst 5, 1) := by decide +kernel
theorem dX6_lays_65 : decode cX6_lays 65 = .ok (.iadd, 1) := by decide +kernel
theorem dX6_lays_66 : decode cX6_lays 66 = .ok (.aload_n 0, 1) := by decide +kernel
theorem dX6_lays_67 : decode cX6_lays 67 = .ok (.iload_n 1, 1) := by decide +kernel
theorem dX6_lays_68 : decode cX6_lays 68 = .ok (.iload_n 2, 1) := by decide +kernel
theorem dX6_lays_69 : decode cX6_lays 69 = .ok (.iload_n 3, 1) := by decide +kernel
theorem dX6_lays_70 : decode cX6_lays 70 = .ok (.iload 4, 2) := by decide +kernel
theorem dX6_lays_72 : decode cX6_lays 72 = .ok (.invokevirtual 34, 3) := by decide +kernel
theorem dX6_lays_75 : decode cX6_lays 75 = .ok (.iastore, 1) := by decide +kernel
theorem dX6_lays_76 : decode cX6_lays 76 = .ok (.aload_n 0, 1) := by decide +kernel
theorem dX6_lays_77 : decode cX6_lays 77 = .ok (.getfield 7, 3) := by decide +kernel
theorem dX6_lays_80 : decode cX6_lays 80 = .ok (.iload 7, 2) := by decide +kernel
theorem dX6_lays_82 : decode cX6_lays 82 = .ok (.bipush 6, 2) := by decide +kernel
theorem dX6_lays_84 : decode cX6_lays 84 = .ok (.iadd, 1) := by decide +kernel
theorem dX6_lays_85 : decode cX6_lays 85 = .ok (.aload_n 0, 1) := by decide +kernel
theorem dX6_lays_86 : decode cX6_lays 86 = .ok (.getfield 7, 3) := by decide +kernel
theorem dX6_lays_89 : decode cX6_lays 89 = .ok (.iload_n 1, 1) := by decide +kernel
theorem dX6_lays_90 : decode cX6_lays 90 = .ok (.sipush 145, 3) := by decide +kernel
theorem dX6_lays_93 : decode cX6_lays 93 = .ok (.iadd, 1) := by decide +kernel
theorem dX6_lays_94 : decode cX6_lays 94 = .ok (.iaload, 1) := by decide +kernel
theorem dX6_lays_95 : decode cX6_lays 95 = .ok (.iastore, 1) := by decide +kernel
theorem dX6_lays_96 : decode cX6_lays 96 = .ok (.aload_n 0, 1) := by decide +kernel
theorem dX6_lays_97 : decode cX6_lays 97 = .ok (.getfield 7, 3) := by decide +kernel
theorem dX6_lays_100 : decode cX6_lays 100 = .ok (.iload 7, 2) := by decide +kernel
theorem dX6_lays_102 : decode cX6_lays 102 = .ok (.bipush 7, 2) := by decide +kernel
theorem dX6_lays_104 : decode cX6_lays 104 = .ok (.iadd, 1) := by decide +kernel
theorem dX6_lays_105 : decode cX6_lays 105 = .ok (.aload_n 0, 1) := by decide +kernel
theorem dX6_lays_106 : decode cX6_lays 106 = .ok (.getfield 7, 3) := by decide +kernel
theorem dX6_lays_109 : decode cX6_lays 109 = .ok (.iload_n 1, 1) := by decide +kernel
theorem dX6_lays_110 : decode cX6_lays 110 = .ok (.sipush 145, 3) := by decide +kernel
theorem dX6_lays_113 : decode cX6_lays 113 = .ok (.iadd, 1) := by decide +kernel
theorem dX6_lays_114 : decode cX6_lays 114 = .ok (.iaload, 1) := by decide +kernel
theorem dX6_lays_115 : decode cX6_lays 115 = .ok (.iastore, 1) := by decide +kernel
theorem dX6_lays_116 : decode cX6_lays 116 = .ok (.aload_n 0, 1) := by decide +kernel
theorem dX6_lays_117 : decode cX6_lays 117 = .ok (.getfield 7, 3) := by decide +kernel
theorem dX6_lays_120 : decode cX6_lays 120 = .ok (.iload 7, 2) := by decide +kernel
theorem dX6_lays_122 : decode cX6_lays 122 = .ok (.bipush 8, 2) := by decide +kernel
theorem dX6_lays_124 : decode cX6_lays 124 = .ok (.iadd, 1) := by decide +kernel
theorem dX6_lays_125 : decode cX6_lays 125 = .ok (.iconst 0, 1) := by decide +kernel
theorem dX6_lays_126 : decode cX6_lays 126 = .ok (.iastore, 1) := by decide +kernel
theorem dX6_lays_127 : decode cX6_lays 127 = .ok (.aload_n 0, 1) := by decide +kernel
theorem dX6_lays_128 : decode cX6_lays 128 = .ok (.getfield 7, 3) := by decide +kernel
theorem dX6_lays_131 : decode cX6_lays 131 = .ok (.iload 7, 2) := by decide +kernel
theorem dX6_lays_133 : decode cX6_lays 133 = .ok (.bipush 9, 2) := by decide +kernel
theorem dX6_lays_135 : decode cX6_lays 135 = .ok (.iadd, 1) := by decide +kernel
theorem dX6_lays_136 : decode cX6_lays 136 = .ok (.iconst 0, 1) := by decide +kernel
theorem dX6_lays_137 : decode cX6_lays 137 = .ok (.iastore, 1) := by decide +kernel
theorem dX6_lays_138 : decode cX6_lays 138 = .ok (.aload_n 0, 1) := by decide +kernel
theorem dX6_lays_139 : decode cX6_lays 139 = .ok (.getfield 7, 3) := by decide +kernel
theorem dX6_lays_142 : decode cX6_lays 142 = .ok (.iload 7, 2) := by decide +kernel
theorem dX6_lays_144 : decode cX6_lays 144 = .ok (.bipush 10, 2) := by decide +kernel
theorem dX6_lays_146 : decode cX6_lays 146 = .ok (.iadd, 1) := by decide +kernel
theorem dX6_lays_147 : decode cX6_lays 147 = .ok (.aload_n 0, 1) := by decide +kernel
theorem dX6_lays_148 : decode cX6_lays 148 = .ok (.getfield 7, 3) := by decide +kernel
theorem dX6_lays_151 : decode cX6_lays 151 = .ok (.iload_n 1, 1) := by decide +kernel
theorem dX6_lays_152 : decode cX6_lays 152 = .ok (.iload_n 2, 1) := by decide +kernel
theorem dX6_lays_153 : decode cX6_lays 153 = .ok (.iconst 3, 1) := by decide +kernel
theorem dX6_lays_154 : decode cX6_lays 154 = .ok (.idiv, 1) := by decide +kernel
theorem dX6_lays_155 : decode cX6_lays 155 = .ok (.iadd, 1) := by decide +kernel
theorem dX6_lays_156 : decode cX6_lays 156 = .ok (.iaload, 1) := by decide +kernel
theorem dX6_lays_157 : decode cX6_lays 157 = .ok (.iastore, 1) := by decide +kernel
theorem dX6_lays_158 : decode cX6_lays 158 = .ok (.return_, 1) := by decide +kernel
theorem dX6_asks_0 : decode cX6_asks 0 = .ok (.iload_n 1, 1) := by decide +kernel
theorem dX6_asks_1 : decode cX6_asks 1 = .ok (.iload_n 2, 1) := by decide +kernel
theorem dX6_asks_2 : decode cX6_asks 2 = .ok (.invokestatic 38, 3) := by decide +kernel
theorem dX6_asks_5 : decode cX6_asks 5 = .ok (.istore 4, 2) := by decide +kernel
theorem dX6_asks_7 : decode cX6_asks 7 = .ok (.aload_n 0, 1) := by decide +kernel
theorem dX6_asks_8 : decode cX6_asks 8 = .ok (.iload_n 1, 1) := by decide +kernel
theorem dX6_asks_9 : decode cX6_asks 9 = .ok (.iload_n 2, 1) := by decide +kernel
theorem dX6_asks_10 : decode cX6_asks 10 = .ok (.iload_n 3, 1) := by decide +kernel
theorem dX6_asks_11 : decode cX6_asks 11 = .ok (.invokevirtual 65, 3) := by decide +kernel
theorem dX6_asks_14 : decode cX6_asks 14 = .ok (.ifCond .ne 7, 3) := by decide +kernel
theorem dX6_asks_17 : decode cX6_asks 17 = .ok (.iconst 1, 1) := by decide +kernel
theorem dX6_asks_18 : decode cX6_asks 18 = .ok (.goto 4, 3) := by decide +kernel
theorem dX6_asks_21 : decode cX6_asks 21 = .ok (.iconst 0, 1) := by decide +kernel
theorem dX6_asks_22 : decode cX6_asks 22 = .ok (.istore 5, 2) := by decide +kernel
theorem dX6_asks_24 : decode cX6_asks 24 = .ok (.aload_n 0, 1) := by decide +kernel
theorem dX6_asks_25 : decode cX6_asks 25 = .ok (.iload 5, 2) := by decide +kernel
theorem dX6_asks_27 : decode cX6_asks 27 = .ok (.ifCond .eq 15, 3) := by decide +kernel
theorem dX6_asks_30 : decode cX6_asks 30 = .ok (.aload_n 0, 1) := by decide +kernel
theorem dX6_asks_31 : decode cX6_asks 31 = .ok (.getfield 7, 3) := by decide +kernel
theorem dX6_asks_34 : decode cX6_asks 34 = .ok (.iload 4, 2) := by decide +kernel
theorem dX6_asks_36 : decode cX6_asks 36 = .ok (.iconst 1, 1) := by decide +kernel
theorem dX6_asks_37 : decode cX6_asks 37 = .ok (.iadd, 1) := by decide +kernel
theorem dX6_asks_38 : decode cX6_asks 38 = .ok (.iaload, 1) := by decide +kernel
theorem dX6_asks_39 : decode cX6_asks 39 = .ok (.goto 10, 3) := by decide +kernel
theorem dX6_asks_42 : decode cX6_asks 42 = .ok (.aload_n 0, 1) := by decide +kernel
theorem dX6_asks_43 : decode cX6_asks 43 = .ok (.iload_n 1, 1) := by decide +kernel
theorem dX6_asks_44 : decode cX6_asks 44 = .ok (.iload_n 2, 1) := by decide +kernel
theorem dX6_asks_45 : decode cX6_asks 45 = .ok (.iload_n 3, 1) := by decide +kernel
theorem dX6_asks_46 : decode cX6_asks 46 = .ok (.invokevirtual 69, 3) := by decide +kernel
theorem dX6_asks_49 : decode cX6_asks 49 = .ok (.putfield 72, 3) := by decide +kernel
theorem dX6_asks_52 : decode cX6_asks 52 = .ok (.aload_n 0, 1) := by decide +kernel
theorem dX6_asks_53 : decode cX6_asks 53 = .ok (.iconst 0, 1) := by decide +kernel
theorem dX6_asks_54 : decode cX6_asks 54 = .ok (.putfield 75, 3) := by decide +kernel
theorem dX6_asks_57 : decode cX6_asks 57 = .ok (.aload_n 0, 1) := by decide +kernel
theorem dX6_asks_58 : decode cX6_asks 58 = .ok (.bipush (-4), 2) := by decide +kernel
theorem dX6_asks_60 : decode cX6_asks 60 = .ok (.putfield 55, 3) := by decide +kernel
theorem dX6_asks_63 : decode cX6_asks 63 = .ok (.aload_n 0, 1) := by decide +kernel
theorem dX6_asks_64 : decode cX6_asks 64 = .ok (.iload_n 1, 1) := by decide +kernel
theorem dX6_asks_65 : decode cX6_asks 65 = .ok (.iload_n 2, 1) := by decide +kernel
theorem dX6_asks_66 : decode cX6_asks 66 = .ok (.aload_n 0, 1) := by decide +kernel
theorem dX6_asks_67 : decode cX6_asks 67 = .ok (.getfield 72, 3) := by decide +kernel
theorem dX6_asks_70 : decode cX6_asks 70 = .ok (.iload_n 3, 1) := by decide +kernel
theorem dX6_asks_71 : decode cX6_asks 71 = .ok (.invokevirtual 34, 3) := by decide +kernel
theorem dX6_asks_74 : decode cX6_asks 74 = .ok (.istore 6, 2) := by decide +kernel
theorem dX6_asks_76 : decode cX6_asks 76 = .ok (.aload_n 0, 1) := by decide +kernel
theorem dX6_asks_77 : decode cX6_asks 77 = .ok (.getfield 7, 3) := by decide +kernel
theorem dX6_asks_80 : decode cX6_asks 80 = .ok (.iload_n 1, 1) := by decide +kernel
theorem dX6_asks_81 : decode cX6_asks 81 = .ok (.sipush 145, 3) := by decide +kernel
theorem dX6_asks_84 : decode cX6_asks 84 = .ok (.iadd, 1) := by decide +kernel
theorem dX6_asks_85 : decode cX6_asks 85 = .ok (.dup2, 1) := by decide +kernel
theorem dX6_asks_86 : decode cX6_asks 86 = .ok (.iaload, 1) := by decide +kernel
theorem dX6_asks_87 : decode cX6_asks 87 = .ok (.iconst 1, 1) := by decide +kernel
theorem dX6_asks_88 : decode cX6_asks 88 = .ok (.iadd, 1) := by decide +kernel
theorem dX6_asks_89 : decode cX6_asks 89 = .ok (.iastore, 1) := by decide +kernel
theorem dX6_asks_90 : decode cX6_asks 90 = .ok (.iload 5, 2) := by decide +kernel
theorem dX6_asks_92 : decode cX6_asks 92 = .ok (.ifCond .eq 137, 3) := by decide +kernel
theorem dX6_asks_95 : decode cX6_asks 95 = .ok (.aload_n 0, 1) := by decide +kernel
theorem dX6_asks_96 : decode cX6_asks 96 = .ok (.getfield 7, 3) := by decide +kernel
theorem dX6_asks_99 : decode cX6_asks 99 = .ok (.iload_n 1, 1) := by decide +kernel
theorem dX6_asks_100 : decode cX6_asks 100 = .ok (.sipush 146, 3) := by decide +kernel
theorem dX6_asks_103 : decode cX6_asks 103 = .ok (.iadd, 1) := by decide +kernel
theorem dX6_asks_104 : decode cX6_asks 104 = .ok (.dup2, 1) := by decide +kernel
theorem dX6_asks_105 : decode cX6_asks 105 = .ok (.iaload, 1) := by decide +kernel
theorem dX6_asks_106 : decode cX6_asks 106 = .ok (.iconst 1, 1) := by decide +kernel
theorem dX6_asks_107 : decode cX6_asks 107 = .ok (.iadd, 1) := by decide +kernel
theorem dX6_asks_108 : decode cX6_asks 108 = .ok (.iastore, 1) := by decide +kernel
theorem dX6_asks_109 : decode cX6_asks 109 = .ok (.aload_n 0, 1) := by decide +kernel
theorem dX6_asks_110 : decode cX6_asks 110 = .ok (.getfield 7, 3) := by decide +kernel
theorem dX6_asks_113 : decode cX6_asks 113 = .ok (.iload 4, 2) := by decide +kernel
theorem dX6_asks_115 : decode cX6_asks 115 = .ok (.bipush 7, 2) := by decide +kernel
theorem dX6_asks_117 : decode cX6_asks 117 = .ok (.iadd, 1) := by decide +kernel
theorem dX6_asks_118 : decode cX6_asks 118 = .ok (.aload_n 0, 1) := by decide +kernel
theorem dX6_asks_119 : decode cX6_asks 119 = .ok (.getfield 7, 3) := by decide +kernel
theorem dX6_asks_122 : decode cX6_asks 122 = .ok (.iload_n 1, 1) := by decide +kernel
theorem dX6_asks_123 : decode cX6_asks 123 = .ok (.sipush 145, 3) := by decide +kernel
theorem dX6_asks_126 : decode cX6_asks 126 = .ok (.iadd, 1) := by decide +kernel
theorem dX6_asks_127 : decode cX6_asks 127 = .ok (.iaload, 1) := by decide +kernel
theorem dX6_asks_128 : decode cX6_asks 128 = .ok (.iastore, 1) := by decide +kernel
theorem dX6_asks_129 : decode cX6_asks 129 = .ok (.aload_n 0, 1) := by decide +kernel
theorem dX6_asks_130 : decode cX6_asks 130 = .ok (.getfield 7, 3) := by decide +kernel
theorem dX6_asks_133 : decode cX6_asks 133 = .ok (.iload 4, 2) := by decide +kernel
theorem dX6_asks_135 : decode cX6_asks 135 = .ok (.bipush 9, 2) := by decide +kernel
theorem dX6_asks_137 : decode cX6_asks 137 = .ok (.iadd, 1) := by decide +kernel
theorem dX6_asks_138 : decode cX6_asks 138 = .ok (.dup2, 1) := by decide +kernel
theorem dX6_asks_139 : decode cX6_asks 139 = .ok (.iaload, 1) := by decide +kernel
theorem dX6_asks_140 : decode cX6_asks 140 = .ok (.iconst 1, 1) := by decide +kernel
theorem dX6_asks_141 : decode cX6_asks 141 = .ok (.iadd, 1) := by decide +kernel
theorem dX6_asks_142 : decode cX6_asks 142 = .ok (.iastore, 1) := by decide +kernel
theorem dX6_asks_143 : decode cX6_asks 143 = .ok (.aload_n 0, 1) := by decide +kernel
theorem dX6_asks_144 : decode cX6_asks 144 = .ok (.iload 6, 2) := by decide +kernel
theorem dX6_asks_146 : decode cX6_asks 146 = .ok (.i2l, 1) := by decide +kernel
theorem dX6_asks_147 : decode cX6_asks 147 = .ok (.aload_n 0, 1) := by decide +kernel
theorem dX6_asks_148 : decode cX6_asks 148 = .ok (.getfield 7, 3) := by decide +kernel
theorem dX6_asks_151 : decode cX6_asks 151 = .ok (.iload_n 1, 1) := by decide +kernel
theorem dX6_asks_152 : decode cX6_asks 152 = .ok (.bipush 8, 2) := by decide +kernel
theorem dX6_asks_154 : decode cX6_asks 154 = .ok (.iadd, 1) := by decide +kernel
theorem dX6_asks_155 : decode cX6_asks 155 = .ok (.iconst 4, 1) := by decide +kernel
theorem dX6_asks_156 : decode cX6_asks 156 = .ok (.iadd, 1) := by decide +kernel
theorem dX6_asks_157 : decode cX6_asks 157 = .ok (.iaload, 1) := by decide +kernel
theorem dX6_asks_158 : decode cX6_asks 158 = .ok (.i2l, 1) := by decide +kernel
theorem dX6_asks_159 : decode cX6_asks 159 = .ok (.aload_n 0, 1) := by decide +kernel
theorem dX6_asks_160 : decode cX6_asks 160 = .ok (.getfield 7, 3) := by decide +kernel
theorem dX6_asks_163 : decode cX6_asks 163 = .ok (.iload 4, 2) := by decide +kernel
theorem dX6_asks_165 : decode cX6_asks 165 = .ok (.iconst 5, 1) := by decide +kernel
theorem dX6_asks_166 : decode cX6_asks 166 = .ok (.iadd, 1) := by decide +kernel
theorem dX6_asks_167 : decode cX6_asks 167 = .ok (.iaload, 1) := by decide +kernel
theorem dX6_asks_168 : decode cX6_asks 168 = .ok (.i2l, 1) := by decide +kernel
theorem dX6_asks_169 : decode cX6_asks 169 = .ok (.lmul, 1) := by decide +kernel
theorem dX6_asks_170 : decode cX6_asks 170 = .ok (.lcmp, 1) := by decide +kernel
theorem dX6_asks_171 : decode cX6_asks 171 = .ok (.ifCond .le 7, 3) := by decide +kernel
theorem dX6_asks_174 : decode cX6_asks 174 = .ok (.iconst 1, 1) := by decide +kernel
theorem dX6_asks_175 : decode cX6_asks 175 = .ok (.goto 4, 3) := by decide +kernel
theorem dX6_asks_178 : decode cX6_asks 178 = .ok (.iconst 0, 1) := by decide +kernel
theorem dX6_asks_179 : decode cX6_asks 179 = .ok (.putfield 75, 3) := by decide +kernel
theorem dX6_asks_182 : decode cX6_asks 182 = .ok (.aload_n 0, 1) := by decide +kernel
theorem dX6_asks_183 : decode cX6_asks 183 = .ok (.getfield 7, 3) := by decide +kernel
theorem dX6_asks_186 : decode cX6_asks 186 = .ok (.iload 4, 2) := by decide +kernel
theorem dX6_asks_188 : decode cX6_asks 188 = .ok (.aload_n 0, 1) := by decide +kernel
theorem dX6_asks_189 : decode cX6_asks 189 = .ok (.getfield 75, 3) := by decide +kernel
theorem dX6_asks_192 : decode cX6_asks 192 = .ok (.ifCond .eq 7, 3) := by decide +kernel
theorem dX6_asks_195 : decode cX6_asks 195 = .ok (.iconst 0, 1) := by decide +kernel
theorem dX6_asks_196 : decode cX6_asks 196 = .ok (.goto 4, 3) := by decide +kernel
theorem dX6_asks_199 : decode cX6_asks 199 = .ok (.iconst 1, 1) := by decide +kernel
theorem dX6_asks_200 : decode cX6_asks 200 = .ok (.iastore, 1) := by decide +kernel
theorem dX6_asks_201 : decode cX6_asks 201 = .ok (.aload_n 0, 1) := by decide +kernel
theorem dX6_asks_202 : decode cX6_asks 202 = .ok (.getfield 7, 3) := by decide +kernel
theorem dX6_asks_205 : decode cX6_asks 205 = .ok (.iload_n 1, 1) := by decide +kernel
theorem dX6_asks_206 : decode cX6_asks 206 = .ok (.sipush 150, 3) := by decide +kernel
theorem dX6_asks_209 : decode cX6_asks 209 = .ok (.iadd, 1) := by decide +kernel
theorem dX6_asks_210 : decode cX6_asks 210 = .ok (.dup2, 1) := by decide +kernel
theorem dX6_asks_211 : decode cX6_asks 211 = .ok (.iaload, 1) := by decide +kernel
theorem dX6_asks_212 : decode cX6_asks 212 = .ok (.aload_n 0, 1) := by decide +kernel
theorem dX6_asks_213 : decode cX6_asks 213 = .ok (.getfield 75, 3) := by decide +kernel
theorem dX6_asks_216 : decode cX6_asks 216 = .ok (.ifCond .eq 7, 3) := by decide +kernel
theorem dX6_asks_219 : decode cX6_asks 219 = .ok (.iconst 1, 1) := by decide +kernel
theorem dX6_asks_220 : decode cX6_asks 220 = .ok (.goto 4, 3) := by decide +kernel
theorem dX6_asks_223 : decode cX6_asks 223 = .ok (.iconst 0, 1) := by decide +kernel
theorem dX6_asks_224 : decode cX6_asks 224 = .ok (.iadd, 1) := by decide +kernel
theorem dX6_asks_225 : decode cX6_asks 225 = .ok (.iastore, 1) := by decide +kernel
theorem dX6_asks_226 : decode cX6_asks 226 = .ok (.goto 99, 3) := by decide +kernel
theorem dX6_asks_229 : decode cX6_asks 229 = .ok (.aload_n 0, 1) := by decide +kernel
theorem dX6_asks_230 : decode cX6_asks 230 = .ok (.getfield 7, 3) := by decide +kernel
theorem dX6_asks_233 : decode cX6_asks 233 = .ok (.iload_n 1, 1) := by decide +kernel
theorem dX6_asks_234 : decode cX6_asks 234 = .ok (.sipush 147, 3) := by decide +kernel
theorem dX6_asks_237 : decode cX6_asks 237 = .ok (.iadd, 1) := by decide +kernel
theorem dX6_asks_238 : decode cX6_asks 238 = .ok (.dup2, 1) := by decide +kernel
theorem dX6_asks_239 : decode cX6_asks 239 = .ok (.iaload, 1) := by decide +kernel
theorem dX6_asks_240 : decode cX6_asks 240 = .ok (.iconst 1, 1) := by decide +kernel
theorem dX6_asks_241 : decode cX6_asks 241 = .ok (.iadd, 1) := by decide +kernel
theorem dX6_asks_242 : decode cX6_asks 242 = .ok (.iastore, 1) := by decide +kernel
theorem dX6_asks_243 : decode cX6_asks 243 = .ok (.aload_n 0, 1) := by decide +kernel
theorem dX6_asks_244 : decode cX6_asks 244 = .ok (.getfield 7, 3) := by decide +kernel
theorem dX6_asks_247 : decode cX6_asks 247 = .ok (.iload_n 1, 1) := by decide +kernel
theorem dX6_asks_248 : decode cX6_asks 248 = .ok (.sipush 149, 3) := by decide +kernel
theorem dX6_asks_251 : decode cX6_asks 251 = .ok (.iadd, 1) := by decide +kernel
theorem dX6_asks_252 : decode cX6_asks 252 = .ok (.dup2, 1) := by decide +kernel
theorem dX6_asks_253 : decode cX6_asks 253 = .ok (.iaload, 1) := by decide +kernel
theorem dX6_asks_254 : decode cX6_asks 254 = .ok (.aload_n 0, 1) := by decide +kernel
theorem dX6_asks_255 : decode cX6_asks 255 = .ok (.getfield 7, 3) := by decide +kernel
theorem dX6_asks_258 : decode cX6_asks 258 = .ok (.iload_n 1, 1) := by decide +kernel
theorem dX6_asks_259 : decode cX6_asks 259 = .ok (.bipush 8, 2) := by decide +kernel
theorem dX6_asks_261 : decode cX6_asks 261 = .ok (.iadd, 1) := by decide +kernel
theorem dX6_asks_262 : decode cX6_asks 262 = .ok (.iaload, 1) := by decide +kernel
theorem dX6_asks_263 : decode cX6_asks 263 = .ok (.iadd, 1) := by decide +kernel
theorem dX6_asks_264 : decode cX6_asks 264 = .ok (.iastore, 1) := by decide +kernel
theorem dX6_asks_265 : decode cX6_asks 265 = .ok (.iload 6, 2) := by decide +kernel
theorem dX6_asks_267 : decode cX6_asks 267 = .ok (.aload_n 0, 1) := by decide +kernel
theorem dX6_asks_268 : decode cX6_asks 268 = .ok (.getfield 7, 3) := by decide +kernel
theorem dX6_asks_271 : decode cX6_asks 271 = .ok (.iload_n 1, 1) := by decide +kernel
theorem dX6_asks_272 : decode cX6_asks 272 = .ok (.bipush 8, 2) := by decide +kernel
theorem dX6_asks_274 : decode cX6_asks 274 = .ok (.iadd, 1) := by decide +kernel
theorem dX6_asks_275 : decode cX6_asks 275 = .ok (.iaload, 1) := by decide +kernel
theorem dX6_asks_276 : decode cX6_asks 276 = .ok (.iadd, 1) := by decide +kernel
theorem dX6_asks_277 : decode cX6_asks 277 = .ok (.istore 6, 2) := by decide +kernel
theorem dX6_asks_279 : decode cX6_asks 279 = .ok (.aload_n 0, 1) := by decide +kernel
theorem dX6_asks_280 : decode cX6_asks 280 = .ok (.iload_n 1, 1) := by decide +kernel
theorem dX6_asks_281 : decode cX6_asks 281 = .ok (.iload_n 2, 1) := by decide +kernel
theorem dX6_asks_282 : decode cX6_asks 282 = .ok (.invokevirtual 79, 3) := by decide +kernel
theorem dX6_asks_285 : decode cX6_asks 285 = .ok (.ifCond .eq 40, 3) := by decide +kernel
theorem dX6_asks_288 : decode cX6_asks 288 = .ok (.aload_n 0, 1) := by decide +kernel
theorem dX6_asks_289 : decode cX6_asks 289 = .ok (.iload_n 1, 1) := by decide +kernel
theorem dX6_asks_290 : decode cX6_asks 290 = .ok (.iload_n 2, 1) := by decide +kernel
theorem dX6_asks_291 : decode cX6_asks 291 = .ok (.aload_n 0, 1) := by decide +kernel
theorem dX6_asks_292 : decode cX6_asks 292 = .ok (.getfield 72, 3) := by decide +kernel
theorem dX6_asks_295 : decode cX6_asks 295 = .ok (.iload_n 3, 1) := by decide +kernel
theorem dX6_asks_296 : decode cX6_asks 296 = .ok (.iload_n 3, 1) := by decide +kernel
theorem dX6_asks_297 : decode cX6_asks 297 = .ok (.aload_n 0, 1) := by decide +kernel
theorem dX6_asks_298 : decode cX6_asks 298 = .ok (.getfield 7, 3) := by decide +kernel
theorem dX6_asks_301 : decode cX6_asks 301 = .ok (.iload_n 1, 1) := by decide +kernel
theorem dX6_asks_302 : decode cX6_asks 302 = .ok (.bipush 8, 2) := by decide +kernel
theorem dX6_asks_304 : decode cX6_asks 304 = .ok (.iadd, 1) := by decide +kernel
theorem dX6_asks_305 : decode cX6_asks 305 = .ok (.iconst 1, 1) := by decide +kernel
theorem dX6_asks_306 : decode cX6_asks 306 = .ok (.iadd, 1) := by decide +kernel
theorem dX6_asks_307 : decode cX6_asks 307 = .ok (.iaload, 1) := by decide +kernel
theorem dX6_asks_308 : decode cX6_asks 308 = .ok (.idiv, 1) := by decide +kernel
theorem dX6_asks_309 : decode cX6_asks 309 = .ok (.iload_n 3, 1) := by decide +kernel
theorem dX6_asks_310 : decode cX6_asks 310 = .ok (.aload_n 0, 1) := by decide +kernel
theorem dX6_asks_311 : decode cX6_asks 311 = .ok (.getfield 7, 3) := by decide +kernel
theorem dX6_asks_314 : decode cX6_asks 314 = .ok (.iload_n 1, 1) := by decide +kernel
theorem dX6_asks_315 : decode cX6_asks 315 = .ok (.bipush 8, 2) := by decide +kernel
theorem dX6_asks_317 : decode cX6_asks 317 = .ok (.iadd, 1) := by decide +kernel
theorem dX6_asks_318 : decode cX6_asks 318 = .ok (.iconst 1, 1) := by decide +kernel
theorem dX6_asks_319 : decode cX6_asks 319 = .ok (.iadd, 1) := by decide +kernel
theorem dX6_asks_320 : decode cX6_asks 320 = .ok (.iaload, 1) := by decide +kernel
theorem dX6_asks_321 : decode cX6_asks 321 = .ok (.imul, 1) := by decide +kernel
theorem dX6_asks_322 : decode cX6_asks 322 = .ok (.invokevirtual 82, 3) := by decide +kernel
theorem dX6_asks_325 : decode cX6_asks 325 = .ok (.aload_n 0, 1) := by decide +kernel
theorem dX6_asks_326 : decode cX6_asks 326 = .ok (.getfield 7, 3) := by decide +kernel
theorem dX6_asks_329 : decode cX6_asks 329 = .ok (.iload_n 1, 1) := by decide +kernel
theorem dX6_asks_330 : decode cX6_asks 330 = .ok (.sipush 148, 3) := by decide +kernel
theorem dX6_asks_333 : decode cX6_asks 333 = .ok (.iadd, 1) := by decide +kernel
theorem dX6_asks_334 : decode cX6_asks 334 = .ok (.dup2, 1) := by decide +kernel
theorem dX6_asks_335 : decode cX6_asks 335 = .ok (.iaload, 1) := by decide +kernel
theorem dX6_asks_336 : decode cX6_asks 336 = .ok (.iload 6, 2) := by decide +kernel
theorem dX6_asks_338 : decode cX6_asks 338 = .ok (.iadd, 1) := by decide +kernel
theorem dX6_asks_339 : decode cX6_asks 339 = .ok (.iastore, 1) := by decide +kernel
theorem dX6_asks_340 : decode cX6_asks 340 = .ok (.aload_n 0, 1) := by decide +kernel
theorem dX6_asks_341 : decode cX6_asks 341 = .ok (.getfield 7, 3) := by decide +kernel
theorem dX6_asks_344 : decode cX6_asks 344 = .ok (.iload_n 1, 1) := by decide +kernel
theorem dX6_asks_345 : decode cX6_asks 345 = .ok (.sipush 152, 3) := by decide +kernel
theorem dX6_asks_348 : decode cX6_asks 348 = .ok (.iadd, 1) := by decide +kernel
theorem dX6_asks_349 : decode cX6_asks 349 = .ok (.iload_n 2, 1) := by decide +kernel
theorem dX6_asks_350 : decode cX6_asks 350 = .ok (.iconst 3, 1) := by decide +kernel
theorem dX6_asks_351 : decode cX6_asks 351 = .ok (.idiv, 1) := by decide +kernel
theorem dX6_asks_352 : decode cX6_asks 352 = .ok (.iadd, 1) := by decide +kernel
theorem dX6_asks_353 : decode cX6_asks 353 = .ok (.dup2, 1) := by decide +kernel
theorem dX6_asks_354 : decode cX6_asks 354 = .ok (.iaload, 1) := by decide +kernel
theorem dX6_asks_355 : decode cX6_asks 355 = .ok (.iconst 1, 1) := by decide +kernel
theorem dX6_asks_356 : decode cX6_asks 356 = .ok (.iadd, 1) := by decide +kernel
theorem dX6_asks_357 : decode cX6_asks 357 = .ok (.iastore, 1) := by decide +kernel
theorem dX6_asks_358 : decode cX6_asks 358 = .ok (.aload_n 0, 1) := by decide +kernel
theorem dX6_asks_359 : decode cX6_asks 359 = .ok (.getfield 7, 3) := by decide +kernel
theorem dX6_asks_362 : decode cX6_asks 362 = .ok (.iload_n 1, 1) := by decide +kernel
theorem dX6_asks_363 : decode cX6_asks 363 = .ok (.sipush 156, 3) := by decide +kernel
theorem dX6_asks_366 : decode cX6_asks 366 = .ok (.iadd, 1) := by decide +kernel
theorem dX6_asks_367 : decode cX6_asks 367 = .ok (.iload_n 2, 1) := by decide +kernel
theorem dX6_asks_368 : decode cX6_asks 368 = .ok (.iconst 3, 1) := by decide +kernel
theorem dX6_asks_369 : decode cX6_asks 369 = .ok (.idiv, 1) := by decide +kernel
theorem dX6_asks_370 : decode cX6_asks 370 = .ok (.iadd, 1) := by decide +kernel
theorem dX6_asks_371 : decode cX6_asks 371 = .ok (.dup2, 1) := by decide +kernel
theorem dX6_asks_372 : decode cX6_asks 372 = .ok (.iaload, 1) := by decide +kernel
theorem dX6_asks_373 : decode cX6_asks 373 = .ok (.iload 6, 2) := by decide +kernel
theorem dX6_asks_375 : decode cX6_asks 375 = .ok (.iadd, 1) := by decide +kernel
theorem dX6_asks_376 : decode cX6_asks 376 = .ok (.iastore, 1) := by decide +kernel
theorem dX6_asks_377 : decode cX6_asks 377 = .ok (.iload 6, 2) := by decide +kernel
theorem dX6_asks_379 : decode cX6_asks 379 = .ok (.ireturn, 1) := by decide +kernel
theorem dX6_table_0 : decode cX6_table 0 = .ok (.iload_n 1, 1) := by decide +kernel
theorem dX6_table_1 : decode cX6_table 1 = .ok (.iconst 0, 1) := by decide +kernel
theorem dX6_table_2 : decode cX6_table 2 = .ok (.iconst 3, 1) := by decide +kernel
theorem dX6_table_3 : decode cX6_table 3 = .ok (.invokestatic 17, 3) := by decide +kernel
theorem dX6_table_6 : decode cX6_table 6 = .ok (.ifCond .ne 5, 3) := by decide +kernel
theorem dX6_table_9 : decode cX6_table 9 = .ok (.iconst (-1), 1) := by decide +kernel
theorem dX6_table_10 : decode cX6_table 10 = .ok (.ireturn, 1) := by decide +kernel
theorem dX6_table_11 : decode cX6_table 11 = .ok (.iload_n 3, 1) := by decide +kernel
theorem dX6_table_12 : decode cX6_table 12 = .ok (.iload_n 2, 1) := by decide +kernel
theorem dX6_table_13 : decode cX6_table 13 = .ok (.ifCond .eq 7, 3) := by decide +kernel
theorem dX6_table_16 : decode cX6_table 16 = .ok (.iconst 1, 1) := by decide +kernel
theorem dX6_table_17 : decode cX6_table 17 = .ok (.goto 4, 3) := by decide +kernel
theorem dX6_table_20 : decode cX6_table 20 = .ok (.iconst 0, 1) := by decide +kernel
theorem dX6_table_21 : decode cX6_table 21 = .ok (.sipush 9999, 3) := by decide +kernel
theorem dX6_table_24 : decode cX6_table 24 = .ok (.invokestatic 17, 3) := by decide +kernel
theorem dX6_table_27 : decode cX6_table 27 = .ok (.ifCond .ne 6, 3) := by decide +kernel
theorem dX6_table_30 : decode cX6_table 30 = .ok (.bipush (-2), 2) := by decide +kernel
theorem dX6_table_32 : decode cX6_table 32 = .ok (.ireturn, 1) := by decide +kernel
theorem dX6_table_33 : decode cX6_table 33 = .ok (.iload_n 2, 1) := by decide +kernel
theorem dX6_table_34 : decode cX6_table 34 = .ok (.ifCond .eq 9, 3) := by decide +kernel
theorem dX6_table_37 : decode cX6_table 37 = .ok (.iconst 4, 1) := by decide +kernel
theorem dX6_table_38 : decode cX6_table 38 = .ok (.iload_n 1, 1) := by decide +kernel
theorem dX6_table_39 : decode cX6_table 39 = .ok (.iadd, 1) := by decide +kernel
theorem dX6_table_40 : decode cX6_table 40 = .ok (.goto 4, 3) := by decide +kernel
theorem dX6_table_43 : decode cX6_table 43 = .ok (.iload_n 1, 1) := by decide +kernel
theorem dX6_table_44 : decode cX6_table 44 = .ok (.istore 4, 2) := by decide +kernel
theorem dX6_table_46 : decode cX6_table 46 = .ok (.aload_n 0, 1) := by decide +kernel
theorem dX6_table_47 : decode cX6_table 47 = .ok (.getfield 7, 3) := by decide +kernel
theorem dX6_table_50 : decode cX6_table 50 = .ok (.iload 4, 2) := by decide +kernel
theorem dX6_table_52 : decode cX6_table 52 = .ok (.iaload, 1) := by decide +kernel
theorem dX6_table_53 : decode cX6_table 53 = .ok (.istore 5, 2) := by decide +kernel
theorem dX6_table_55 : decode cX6_table 55 = .ok (.iload 5, 2) := by decide +kernel
theorem dX6_table_57 : decode cX6_table 57 = .ok (.iload_n 3, 1) := by decide +kernel
theorem dX6_table_58 : decode cX6_table 58 = .ok (.if_icmp .ne 6, 3) := by decide +kernel
theorem dX6_table_61 : decode cX6_table 61 = .ok (.bipush (-4), 2) := by decide +kernel
theorem dX6_table_63 : decode cX6_table 63 = .ok (.ireturn, 1) := by decide +kernel
theorem dX6_table_64 : decode cX6_table 64 = .ok (.aload_n 0, 1) := by decide +kernel
theorem dX6_table_65 : decode cX6_table 65 = .ok (.invokevirtual 86, 3) := by decide +kernel
theorem dX6_table_68 : decode cX6_table 68 = .ok (.aload_n 0, 1) := by decide +kernel
theorem dX6_table_69 : decode cX6_table 69 = .ok (.getfield 7, 3) := by decide +kernel
theorem dX6_table_72 : decode cX6_table 72 = .ok (.iload 4, 2) := by decide +kernel
theorem dX6_table_74 : decode cX6_table 74 = .ok (.iload_n 3, 1) := by decide +kernel
theorem dX6_table_75 : decode cX6_table 75 = .ok (.iastore, 1) := by decide +kernel
theorem dX6_table_76 : decode cX6_table 76 = .ok (.iload 5, 2) := by decide +kernel
theorem dX6_table_78 : decode cX6_table 78 = .ok (.ireturn, 1) := by decide +kernel
theorem dX6_ask_0 : decode cX6_ask 0 = .ok (.iload_n 1, 1) := by decide +kernel
theorem dX6_ask_1 : decode cX6_ask 1 = .ok (.invokestatic 89, 3) := by decide +kernel
theorem dX6_ask_4 : decode cX6_ask 4 = .ok (.ifCond .ne 5, 3) := by decide +kernel
theorem dX6_ask_7 : decode cX6_ask 7 = .ok (.iconst (-1), 1) := by decide +kernel
theorem dX6_ask_8 : decode cX6_ask 8 = .ok (.ireturn, 1) := by decide +kernel
theorem dX6_ask_9 : decode cX6_ask 9 = .ok (.iload_n 1, 1) := by decide +kernel
theorem dX6_ask_10 : decode cX6_ask 10 = .ok (.iload_n 2, 1) := by decide +kernel
theorem dX6_ask_11 : decode cX6_ask 11 = .ok (.invokestatic 93, 3) := by decide +kernel
theorem dX6_ask_14 : decode cX6_ask 14 = .ok (.ifCond .ne 6, 3) := by decide +kernel
theorem dX6_ask_17 : decode cX6_ask 17 = .ok (.bipush (-2), 2) := by decide +kernel
theorem dX6_ask_19 : decode cX6_ask 19 = .ok (.ireturn, 1) := by decide +kernel
theorem dX6_ask_20 : decode cX6_ask 20 = .ok (.aload_n 0, 1) := by decide +kernel
theorem dX6_ask_21 : decode cX6_ask 21 = .ok (.invokevirtual 86, 3) := by decide +kernel
theorem dX6_ask_24 : decode cX6_ask 24 = .ok (.aload_n 0, 1) := by decide +kernel
theorem dX6_ask_25 : decode cX6_ask 25 = .ok (.iconst 0, 1) := by decide +kernel
theorem dX6_ask_26 : decode cX6_ask 26 = .ok (.iload_n 1, 1) := by decide +kernel
theorem dX6_ask_27 : decode cX6_ask 27 = .ok (.iload_n 2, 1) := by decide +kernel
theorem dX6_ask_28 : decode cX6_ask 28 = .ok (.invokevirtual 96, 3) := by decide +kernel
theorem dX6_ask_31 : decode cX6_ask 31 = .ok (.ireturn, 1) := by decide +kernel
theorem dX6_isAt_0 : decode cX6_isAt 0 = .ok (.aload_n 0, 1) := by decide +kernel
theorem dX6_isAt_1 : decode cX6_isAt 1 = .ok (.getfield 99, 3) := by decide +kernel
theorem dX6_isAt_4 : decode cX6_isAt 4 = .ok (.aload_n 0, 1) := by decide +kernel
theorem dX6_isAt_5 : decode cX6_isAt 5 = .ok (.getfield 102, 3) := by decide +kernel
theorem dX6_isAt_8 : decode cX6_isAt 8 = .ok (.if_icmp .ge 20, 3) := by decide +kernel
theorem dX6_isAt_11 : decode cX6_isAt 11 = .ok (.aload_n 0, 1) := by decide +kernel
theorem dX6_isAt_12 : decode cX6_isAt 12 = .ok (.getfield 13, 3) := by decide +kernel
theorem dX6_isAt_15 : decode cX6_isAt 15 = .ok (.aload_n 0, 1) := by decide +kernel
theorem dX6_isAt_16 : decode cX6_isAt 16 = .ok (.getfield 99, 3) := by decide +kernel
theorem dX6_isAt_19 : decode cX6_isAt 19 = .ok (.caload, 1) := by decide +kernel
theorem dX6_isAt_20 : decode cX6_isAt 20 = .ok (.iload_n 1, 1) := by decide +kernel
theorem dX6_isAt_21 : decode cX6_isAt 21 = .ok (.if_icmp .ne 7, 3) := by decide +kernel
theorem dX6_isAt_24 : decode cX6_isAt 24 = .ok (.iconst 1, 1) := by decide +kernel
theorem dX6_isAt_25 : decode cX6_isAt 25 = .ok (.goto 4, 3) := by decide +kernel
theorem dX6_isAt_28 : decode cX6_isAt 28 = .ok (.iconst 0, 1) := by decide +kernel
theorem dX6_isAt_29 : decode cX6_isAt 29 = .ok (.ireturn, 1) := by decide +kernel
theorem dX6_takes_0 : decode cX6_takes 0 = .ok (.aload_n 0, 1) := by decide +kernel
theorem dX6_takes_1 : decode cX6_takes 1 = .ok (.iload_n 1, 1) := by decide +kernel
theorem dX6_takes_2 : decode cX6_takes 2 = .ok (.invokevirtual 105, 3) := by decide +kernel
theorem dX6_takes_5 : decode cX6_takes 5 = .ok (.istore_n 2, 1) := by decide +kernel
theorem dX6_takes_6 : decode cX6_takes 6 = .ok (.aload_n 0, 1) := by decide +kernel
theorem dX6_takes_7 : decode cX6_takes 7 = .ok (.dup, 1) := by decide +kernel
theorem dX6_takes_8 : decode cX6_takes 8 = .ok (.getfield 99, 3) := by decide +kernel
theorem dX6_takes_11 : decode cX6_takes 11 = .ok (.iload_n 2, 1) := by decide +kernel
theorem dX6_takes_12 : decode cX6_takes 12 = .ok (.ifCond .eq 7, 3) := by decide +kernel
theorem dX6_takes_15 : decode cX6_takes 15 = .ok (.iconst 1, 1) := by decide +kernel
theorem dX6_takes_16 : decode cX6_takes 16 = .ok (.goto 4, 3) := by decide +kernel
theorem dX6_takes_19 : decode cX6_takes 19 = .ok (.iconst 0, 1) := by decide +kernel
theorem dX6_takes_20 : decode cX6_takes 20 = .ok (.iadd, 1) := by decide +kernel
theorem dX6_takes_21 : decode cX6_takes 21 = .ok (.putfield 99, 3) := by decide +kernel
theorem dX6_takes_24 : decode cX6_takes 24 = .ok (.iload_n 2, 1) := by decide +kernel
theorem dX6_takes_25 : decode cX6_takes 25 = .ok (.ireturn, 1) := by decide +kernel
theorem dX6_isDigit_0 : decode cX6_isDigit 0 = .ok (.aload_n 0, 1) := by decide +kernel
theorem dX6_isDigit_1 : decode cX6_isDigit 1 = .ok (.getfield 99, 3) := by decide +kernel
theorem dX6_isDigit_4 : decode cX6_isDigit 4 = .ok (.aload_n 0, 1) := by decide +kernel
theorem dX6_isDigit_5 : decode cX6_isDigit 5 = .ok (.getfield 102, 3) := by decide +kernel
theorem dX6_isDigit_8 : decode cX6_isDigit 8 = .ok (.if_icmp .ge 24, 3) := by decide +kernel
theorem dX6_isDigit_11 : decode cX6_isDigit 11 = .ok (.aload_n 0, 1) := by decide +kernel
theorem dX6_isDigit_12 : decode cX6_isDigit 12 = .ok (.getfield 13, 3) := by decide +kernel
theorem dX6_isDigit_15 : decode cX6_isDigit 15 = .ok (.aload_n 0, 1) := by decide +kernel
theorem dX6_isDigit_16 : decode cX6_isDigit 16 = .ok (.getfield 99, 3) := by decide +kernel
theorem dX6_isDigit_19 : decode cX6_isDigit 19 = .ok (.caload, 1) := by decide +kernel
theorem dX6_isDigit_20 : decode cX6_isDigit 20 = .ok (.iload_n 1, 1) := by decide +kernel
theorem dX6_isDigit_21 : decode cX6_isDigit 21 = .ok (.iload_n 2, 1) := by decide +kernel
theorem dX6_isDigit_22 : decode cX6_isDigit 22 = .ok (.invokestatic 17, 3) := by decide +kernel
theorem dX6_isDigit_25 : decode cX6_isDigit 25 = .ok (.ifCond .eq 7, 3) := by decide +kernel
theorem dX6_isDigit_28 : decode cX6_isDigit 28 = .ok (.iconst 1, 1) := by decide +kernel
theorem dX6_isDigit_29 : decode cX6_isDigit 29 = .ok (.goto 4, 3) := by decide +kernel
theorem dX6_isDigit_32 : decode cX6_isDigit 32 = .ok (.iconst 0, 1) := by decide +kernel
theorem dX6_isDigit_33 : decode cX6_isDigit 33 = .ok (.ireturn, 1) := by decide +kernel
theorem dX6_word_0 : decode cX6_word 0 = .ok (.aload_n 0, 1) := by decide +kernel
theorem dX6_word_1 : decode cX6_word 1 = .ok (.bipush 107, 2) := by decide +kernel
theorem dX6_word_3 : decode cX6_word 3 = .ok (.invokevirtual 109, 3) := by decide +kernel
theorem dX6_word_6 : decode cX6_word 6 = .ok (.ifCond .eq 51, 3) := by decide +kernel
theorem dX6_word_9 : decode cX6_word 9 = .ok (.aload_n 0, 1) := by decide +kernel
theorem dX6_word_10 : decode cX6_word 10 = .ok (.bipush 101, 2) := by decide +kernel
theorem dX6_word_12 : decode cX6_word 12 = .ok (.invokevirtual 109, 3) := by decide +kernel
theorem dX6_word_15 : decode cX6_word 15 = .ok (.ifCond .eq 16, 3) := by decide +kernel
theorem dX6_word_18 : decode cX6_word 18 = .ok (.aload_n 0, 1) := by decide +kernel
theorem dX6_word_19 : decode cX6_word 19 = .ok (.bipush 121, 2) := by decide +kernel
theorem dX6_word_21 : decode cX6_word 21 = .ok (.invokevirtual 109, 3) := by decide +kernel
theorem dX6_word_24 : decode cX6_word 24 = .ok (.ifCond .eq 7, 3) := by decide +kernel
theorem dX6_word_27 : decode cX6_word 27 = .ok (.iconst 1, 1) := by decide +kernel
theorem dX6_word_28 : decode cX6_word 28 = .ok (.goto 4, 3) := by decide +kernel
theorem dX6_word_31 : decode cX6_word 31 = .ok (.iconst 0, 1) := by decide +kernel
theorem dX6_word_32 : decode cX6_word 32 = .ok (.istore_n 1, 1) := by decide +kernel
theorem dX6_word_33 : decode cX6_word 33 = .ok (.aload_n 0, 1) := by decide +kernel
theorem dX6_word_34 : decode cX6_word 34 = .ok (.iload_n 1, 1) := by decide +kernel
theorem dX6_word_35 : decode cX6_word 35 = .ok (.ifCond .eq 16, 3) := by decide +kernel
theorem dX6_word_38 : decode cX6_word 38 = .ok (.aload_n 0, 1) := by decide +kernel
theorem dX6_word_39 : decode cX6_word 39 = .ok (.bipush 115, 2) := by decide +kernel
theorem dX6_word_41 : decode cX6_word 41 = .ok (.invokevirtual 109, 3) := by decide +kernel
theorem dX6_word_44 : decode cX6_word 44 = .ok (.ifCond .eq 7, 3) := by decide +kernel
theorem dX6_word_47 : decode cX6_word 47 = .ok (.iconst 4, 1) := by decide +kernel
theorem dX6_word_48 : decode cX6_word 48 = .ok (.goto 4, 3) := by decide +kernel
theorem dX6_word_51 : decode cX6_word 51 = .ok (.iconst 0, 1) := by decide +kernel
theorem dX6_word_52 : decode cX6_word 52 = .ok (.putfield 112, 3) := by decide +kernel
theorem dX6_word_55 : decode cX6_word 55 = .ok (.iload_n 1, 1) := by decide +kernel
theorem dX6_word_56 : decode cX6_word 56 = .ok (.ireturn, 1) := by decide +kernel
theorem dX6_word_57 : decode cX6_word 57 = .ok (.aload_n 0, 1) := by decide +kernel
theorem dX6_word_58 : decode cX6_word 58 = .ok (.bipush 115, 2) := by decide +kernel
theorem dX6_word_60 : decode cX6_word 60 = .ok (.invokevirtual 109, 3) := by decide +kernel
theorem dX6_word_63 : decode cX6_word 63 = .ok (.ifCond .eq 41, 3) := by decide +kernel
theorem dX6_word_66 : decode cX6_word 66 = .ok (.aload_n 0, 1) := by decide +kernel
theorem dX6_word_67 : decode cX6_word 67 = .ok (.iconst 1, 1) := by decide +kernel
theorem dX6_word_68 : decode cX6_word 68 = .ok (.putfield 112, 3) := by decide +kernel
theorem dX6_word_71 : decode cX6_word 71 = .ok (.aload_n 0, 1) := by decide +kernel
theorem dX6_word_72 : decode cX6_word 72 = .ok (.bipush 112, 2) := by decide +kernel
theorem dX6_word_74 : decode cX6_word 74 = .ok (.invokevirtual 109, 3) := by decide +kernel
theorem dX6_word_77 : decode cX6_word 77 = .ok (.ifCond .eq 25, 3) := by decide +kernel
theorem dX6_word_80 : decode cX6_word 80 = .ok (.aload_n 0, 1) := by decide +kernel
theorem dX6_word_81 : decode cX6_word 81 = .ok (.bipush 97, 2) := by decide +kernel
theorem dX6_word_83 : decode cX6_word 83 = .ok (.invokevirtual 109, 3) := by decide +kernel
theorem dX6_word_86 : decode cX6_word 86 = .ok (.ifCond .eq 16, 3) := by decide +kernel
theorem dX6_word_89 : decode cX6_word 89 = .ok (.aload_n 0, 1) := by decide +kernel
theorem dX6_word_90 : decode cX6_word 90 = .ok (.bipush 110, 2) := by decide +kernel
theorem dX6_word_92 : decode cX6_word 92 = .ok (.invokevirtual 109, 3) := by decide +kernel
theorem dX6_word_95 : decode cX6_word 95 = .ok (.ifCond .eq 7, 3) := by decide +kernel
theorem dX6_word_98 : decode cX6_word 98 = .ok (.iconst 1, 1) := by decide +kernel
theorem dX6_word_99 : decode cX6_word 99 = .ok (.goto 4, 3) := by decide +kernel
theorem dX6_word_102 : decode cX6_word 102 = .ok (.iconst 0, 1) := by decide +kernel
theorem dX6_word_103 : decode cX6_word 103 = .ok (.ireturn, 1) := by decide +kernel
theorem dX6_word_104 : decode cX6_word 104 = .ok (.aload_n 0, 1) := by decide +kernel
theorem dX6_word_105 : decode cX6_word 105 = .ok (.bipush 116, 2) := by decide +kernel
theorem dX6_word_107 : decode cX6_word 107 = .ok (.invokevirtual 109, 3) := by decide +kernel
theorem dX6_word_110 : decode cX6_word 110 = .ok (.ifCond .eq 32, 3) := by decide +kernel
theorem dX6_word_113 : decode cX6_word 113 = .ok (.aload_n 0, 1) := by decide +kernel
theorem dX6_word_114 : decode cX6_word 114 = .ok (.iconst 2, 1) := by decide +kernel
theorem dX6_word_115 : decode cX6_word 115 = .ok (.putfield 112, 3) := by decide +kernel
theorem dX6_word_118 : decode cX6_word 118 = .ok (.aload_n 0, 1) := by decide +kernel
theorem dX6_word_119 : decode cX6_word 119 = .ok (.bipush 111, 2) := by decide +kernel
theorem dX6_word_121 : decode cX6_word 121 = .ok (.invokevirtual 109, 3) := by decide +kernel
theorem dX6_word_124 : decode cX6_word 124 = .ok (.ifCond .eq 16, 3) := by decide +kernel
theorem dX6_word_127 : decode cX6_word 127 = .ok (.aload_n 0, 1) := by decide +kernel
theorem dX6_word_128 : decode cX6_word 128 = .ok (.bipush 112, 2) := by decide +kernel
theorem dX6_word_130 : decode cX6_word 130 = .ok (.invokevirtual 109, 3) := by decide +kernel
theorem dX6_word_133 : decode cX6_word 133 = .ok (.ifCond .eq 7, 3) := by decide +kernel
theorem dX6_word_136 : decode cX6_word 136 = .ok (.iconst 1, 1) := by decide +kernel
theorem dX6_word_137 : decode cX6_word 137 = .ok (.goto 4, 3) := by decide +kernel
theorem dX6_word_140 : decode cX6_word 140 = .ok (.iconst 0, 1) := by decide +kernel
theorem dX6_word_141 : decode cX6_word 141 = .ok (.ireturn, 1) := by decide +kernel
theorem dX6_word_142 : decode cX6_word 142 = .ok (.aload_n 0, 1) := by decide +kernel
theorem dX6_word_143 : decode cX6_word 143 = .ok (.iconst 3, 1) := by decide +kernel
theorem dX6_word_144 : decode cX6_word 144 = .ok (.putfield 112, 3) := by decide +kernel
theorem dX6_word_147 : decode cX6_word 147 = .ok (.aload_n 0, 1) := by decide +kernel
theorem dX6_word_148 : decode cX6_word 148 = .ok (.bipush 114, 2) := by decide +kernel
theorem dX6_word_150 : decode cX6_word 150 = .ok (.invokevirtual 109, 3) := by decide +kernel
theorem dX6_word_153 : decode cX6_word 153 = .ok (.ifCond .eq 34, 3) := by decide +kernel
theorem dX6_word_156 : decode cX6_word 156 = .ok (.aload_n 0, 1) := by decide +kernel
theorem dX6_word_157 : decode cX6_word 157 = .ok (.bipush 111, 2) := by decide +kernel
theorem dX6_word_159 : decode cX6_word 159 = .ok (.invokevirtual 109, 3) := by decide +kernel
theorem dX6_word_162 : decode cX6_word 162 = .ok (.ifCond .eq 25, 3) := by decide +kernel
theorem dX6_word_165 : decode cX6_word 165 = .ok (.aload_n 0, 1) := by decide +kernel
theorem dX6_word_166 : decode cX6_word 166 = .ok (.bipush 119, 2) := by decide +kernel
theorem dX6_word_168 : decode cX6_word 168 = .ok (.invokevirtual 109, 3) := by decide +kernel
theorem dX6_word_171 : decode cX6_word 171 = .ok (.ifCond .eq 16, 3) := by decide +kernel
theorem dX6_word_174 : decode cX6_word 174 = .ok (.aload_n 0, 1) := by decide +kernel
theorem dX6_word_175 : decode cX6_word 175 = .ok (.bipush 115, 2) := by decide +kernel
theorem dX6_word_177 : decode cX6_word 177 = .ok (.invokevirtual 109, 3) := by decide +kernel
theorem dX6_word_180 : decode cX6_word 180 = .ok (.ifCond .eq 7, 3) := by decide +kernel
theorem dX6_word_183 : decode cX6_word 183 = .ok (.iconst 1, 1) := by decide +kernel
theorem dX6_word_184 : decode cX6_word 184 = .ok (.goto 4, 3) := by decide +kernel
theorem dX6_word_187 : decode cX6_word 187 = .ok (.iconst 0, 1) := by decide +kernel
theorem dX6_word_188 : decode cX6_word 188 = .ok (.ireturn, 1) := by decide +kernel
theorem dX6_reads_0 : decode cX6_reads 0 = .ok (.aload_n 0, 1) := by decide +kernel
theorem dX6_reads_1 : decode cX6_reads 1 = .ok (.invokevirtual 115, 3) := by decide +kernel
theorem dX6_reads_4 : decode cX6_reads 4 = .ok (.ifCond .eq 23, 3) := by decide +kernel
theorem dX6_reads_7 : decode cX6_reads 7 = .ok (.aload_n 0, 1) := by decide +kernel
theorem dX6_reads_8 : decode cX6_reads 8 = .ok (.bipush 32, 2) := by decide +kernel
theorem dX6_reads_10 : decode cX6_reads 10 = .ok (.invokevirtual 109, 3) := by decide +kernel
theorem dX6_reads_13 : decode cX6_reads 13 = .ok (.ifCond .eq 14, 3) := by decide +kernel
theorem dX6_reads_16 : decode cX6_reads 16 = .ok (.aload_n 0, 1) := by decide +kernel
theorem dX6_reads_17 : decode cX6_reads 17 = .ok (.bipush 48, 2) := by decide +kernel
theorem dX6_reads_19 : decode cX6_reads 19 = .ok (.bipush 51, 2) := by decide +kernel
theorem dX6_reads_21 : decode cX6_reads 21 = .ok (.invokevirtual 119, 3) := by decide +kernel
theorem dX6_reads_24 : decode cX6_reads 24 = .ok (.ifCond .ne 5, 3) := by decide +kernel
theorem dX6_reads_27 : decode cX6_reads 27 = .ok (.iconst 0, 1) := by decide +kernel
theorem dX6_reads_28 : decode cX6_reads 28 = .ok (.ireturn, 1) := by decide +kernel
theorem dX6_reads_29 : decode cX6_reads 29 = .ok (.aload_n 0, 1) := by decide +kernel
theorem dX6_reads_30 : decode cX6_reads 30 = .ok (.aload_n 0, 1) := by decide +kernel
theorem dX6_reads_31 : decode cX6_reads 31 = .ok (.getfield 13, 3) := by decide +kernel
theorem dX6_reads_34 : decode cX6_reads 34 = .ok (.aload_n 0, 1) := by decide +kernel
theorem dX6_reads_35 : decode cX6_reads 35 = .ok (.getfield 99, 3) := by decide +kernel
theorem dX6_reads_38 : decode cX6_reads 38 = .ok (.caload, 1) := by decide +kernel
theorem dX6_reads_39 : decode cX6_reads 39 = .ok (.bipush 48, 2) := by decide +kernel
theorem dX6_reads_41 : decode cX6_reads 41 = .ok (.isub, 1) := by decide +kernel
theorem dX6_reads_42 : decode cX6_reads 42 = .ok (.putfield 123, 3) := by decide +kernel
theorem dX6_reads_45 : decode cX6_reads 45 = .ok (.aload_n 0, 1) := by decide +kernel
theorem dX6_reads_46 : decode cX6_reads 46 = .ok (.dup, 1) := by decide +kernel
theorem dX6_reads_47 : decode cX6_reads 47 = .ok (.getfield 99, 3) := by decide +kernel
theorem dX6_reads_50 : decode cX6_reads 50 = .ok (.iconst 1, 1) := by decide +kernel
theorem dX6_reads_51 : decode cX6_reads 51 = .ok (.iadd, 1) := by decide +kernel
theorem dX6_reads_52 : decode cX6_reads 52 = .ok (.putfield 99, 3) := by decide +kernel
theorem dX6_reads_55 : decode cX6_reads 55 = .ok (.aload_n 0, 1) := by decide +kernel
theorem dX6_reads_56 : decode cX6_reads 56 = .ok (.bipush 32, 2) := by decide +kernel
theorem dX6_reads_58 : decode cX6_reads 58 = .ok (.invokevirtual 109, 3) := by decide +kernel
theorem dX6_reads_61 : decode cX6_reads 61 = .ok (.ifCond .eq 34, 3) := by decide +kernel
theorem dX6_reads_64 : decode cX6_reads 64 = .ok (.aload_n 0, 1) := by decide +kernel
theorem dX6_reads_65 : decode cX6_reads 65 = .ok (.aload_n 0, 1) := by decide +kernel
theorem dX6_reads_66 : decode cX6_reads 66 = .ok (.getfield 112, 3) := by decide +kernel
theorem dX6_reads_69 : decode cX6_reads 69 = .ok (.ifCond .eq 11, 3) := by decide +kernel
theorem dX6_reads_72 : decode cX6_reads 72 = .ok (.aload_n 0, 1) := by decide +kernel
theorem dX6_reads_73 : decode cX6_reads 73 = .ok (.getfield 112, 3) := by decide +kernel
theorem dX6_reads_76 : decode cX6_reads 76 = .ok (.iconst 3, 1) := by decide +kernel
theorem dX6_reads_77 : decode cX6_reads 77 = .ok (.if_icmp .ne 8, 3) := by decide +kernel
theorem dX6_reads_80 : decode cX6_reads 80 = .ok (.bipush 48, 2) := by decide +kernel
theorem dX6_reads_82 : decode cX6_reads 82 = .ok (.goto 5, 3) := by decide +kernel
theorem dX6_reads_85 : decode cX6_reads 85 = .ok (.bipush 49, 2) := by decide +kernel
theorem dX6_reads_87 : decode cX6_reads 87 = .ok (.bipush 57, 2) := by decide +kernel
theorem dX6_reads_89 : decode cX6_reads 89 = .ok (.invokevirtual 119, 3) := by decide +kernel
theorem dX6_reads_92 : decode cX6_reads 92 = .ok (.ifCond .ne 5, 3) := by decide +kernel
theorem dX6_reads_95 : decode cX6_reads 95 = .ok (.iconst 0, 1) := by decide +kernel
theorem dX6_reads_96 : decode cX6_reads 96 = .ok (.ireturn, 1) := by decide +kernel
theorem dX6_reads_97 : decode cX6_reads 97 = .ok (.aload_n 0, 1) := by decide +kernel
theorem dX6_reads_98 : decode cX6_reads 98 = .ok (.aload_n 0, 1) := by decide +kernel
theorem dX6_reads_99 : decode cX6_reads 99 = .ok (.getfield 13, 3) := by decide +kernel
theorem dX6_reads_102 : decode cX6_reads 102 = .ok (.aload_n 0, 1) := by decide +kernel
theorem dX6_reads_103 : decode cX6_reads 103 = .ok (.getfield 99, 3) := by decide +kernel
theorem dX6_reads_106 : decode cX6_reads 106 = .ok (.caload, 1) := by decide +kernel
theorem dX6_reads_107 : decode cX6_reads 107 = .ok (.bipush 48, 2) := by decide +kernel
theorem dX6_reads_109 : decode cX6_reads 109 = .ok (.isub, 1) := by decide +kernel
theorem dX6_reads_110 : decode cX6_reads 110 = .ok (.putfield 126, 3) := by decide +kernel
theorem dX6_reads_113 : decode cX6_reads 113 = .ok (.aload_n 0, 1) := by decide +kernel
theorem dX6_reads_114 : decode cX6_reads 114 = .ok (.dup, 1) := by decide +kernel
theorem dX6_reads_115 : decode cX6_reads 115 = .ok (.getfield 99, 3) := by decide +kernel
theorem dX6_reads_118 : decode cX6_reads 118 = .ok (.iconst 1, 1) := by decide +kernel
theorem dX6_reads_119 : decode cX6_reads 119 = .ok (.iadd, 1) := by decide +kernel
theorem dX6_reads_120 : decode cX6_reads 120 = .ok (.putfield 99, 3) := by decide +kernel
theorem dX6_reads_123 : decode cX6_reads 123 = .ok (.aload_n 0, 1) := by decide +kernel
theorem dX6_reads_124 : decode cX6_reads 124 = .ok (.getfield 126, 3) := by decide +kernel
theorem dX6_reads_127 : decode cX6_reads 127 = .ok (.ifCond .le 77, 3) := by decide +kernel
theorem dX6_reads_130 : decode cX6_reads 130 = .ok (.aload_n 0, 1) := by decide +kernel
theorem dX6_reads_131 : decode cX6_reads 131 = .ok (.bipush 48, 2) := by decide +kernel
theorem dX6_reads_133 : decode cX6_reads 133 = .ok (.bipush 57, 2) := by decide +kernel
theorem dX6_reads_135 : decode cX6_reads 135 = .ok (.invokevirtual 119, 3) := by decide +kernel
theorem dX6_reads_138 : decode cX6_reads 138 = .ok (.ifCond .eq 66, 3) := by decide +kernel
theorem dX6_reads_141 : decode cX6_reads 141 = .ok (.bipush 10, 2) := by decide +kernel
theorem dX6_reads_143 : decode cX6_reads 143 = .ok (.aload_n 0, 1) := by decide +kernel
theorem dX6_reads_144 : decode cX6_reads 144 = .ok (.getfield 126, 3) := by decide +kernel
theorem dX6_reads_147 : decode cX6_reads 147 = .ok (.imul, 1) := by decide +kernel
theorem dX6_reads_148 : decode cX6_reads 148 = .ok (.aload_n 0, 1) := by decide +kernel
theorem dX6_reads_149 : decode cX6_reads 149 = .ok (.getfield 13, 3) := by decide +kernel
theorem dX6_reads_152 : decode cX6_reads 152 = .ok (.aload_n 0, 1) := by decide +kernel
theorem dX6_reads_153 : decode cX6_reads 153 = .ok (.getfield 99, 3) := by decide +kernel
theorem dX6_reads_156 : decode cX6_reads 156 = .ok (.caload, 1) := by decide +kernel
theorem dX6_reads_157 : decode cX6_reads 157 = .ok (.iadd, 1) := by decide +kernel
theorem dX6_reads_158 : decode cX6_reads 158 = .ok (.bipush 48, 2) := by decide +kernel
theorem dX6_reads_160 : decode cX6_reads 160 = .ok (.isub, 1) := by decide +kernel
theorem dX6_reads_161 : decode cX6_reads 161 = .ok (.sipush 9999, 3) := by decide +kernel
theorem dX6_reads_164 : decode cX6_reads 164 = .ok (.if_icmp .gt 40, 3) := by decide +kernel
theorem dX6_reads_167 : decode cX6_reads 167 = .ok (.aload_n 0, 1) := by decide +kernel
theorem dX6_reads_168 : decode cX6_reads 168 = .ok (.bipush 10, 2) := by decide +kernel
theorem dX6_reads_170 : decode cX6_reads 170 = .ok (.aload_n 0, 1) := by decide +kernel
theorem dX6_reads_171 : decode cX6_reads 171 = .ok (.getfield 126, 3) := by decide +kernel
theorem dX6_reads_174 : decode cX6_reads 174 = .ok (.imul, 1) := by decide +kernel
theorem dX6_reads_175 : decode cX6_reads 175 = .ok (.aload_n 0, 1) := by decide +kernel
theorem dX6_reads_176 : decode cX6_reads 176 = .ok (.getfield 13, 3) := by decide +kernel
theorem dX6_reads_179 : decode cX6_reads 179 = .ok (.aload_n 0, 1) := by decide +kernel
theorem dX6_reads_180 : decode cX6_reads 180 = .ok (.getfield 99, 3) := by decide +kernel
theorem dX6_reads_183 : decode cX6_reads 183 = .ok (.caload, 1) := by decide +kernel
theorem dX6_reads_184 : decode cX6_reads 184 = .ok (.iadd, 1) := by decide +kernel
theorem dX6_reads_185 : decode cX6_reads 185 = .ok (.bipush 48, 2) := by decide +kernel
theorem dX6_reads_187 : decode cX6_reads 187 = .ok (.isub, 1) := by decide +kernel
theorem dX6_reads_188 : decode cX6_reads 188 = .ok (.putfield 126, 3) := by decide +kernel
theorem dX6_reads_191 : decode cX6_reads 191 = .ok (.aload_n 0, 1) := by decide +kernel
theorem dX6_reads_192 : decode cX6_reads 192 = .ok (.dup, 1) := by decide +kernel
theorem dX6_reads_193 : decode cX6_reads 193 = .ok (.getfield 99, 3) := by decide +kernel
theorem dX6_reads_196 : decode cX6_reads 196 = .ok (.iconst 1, 1) := by decide +kernel
theorem dX6_reads_197 : decode cX6_reads 197 = .ok (.iadd, 1) := by decide +kernel
theorem dX6_reads_198 : decode cX6_reads 198 = .ok (.putfield 99, 3) := by decide +kernel
theorem dX6_reads_201 : decode cX6_reads 201 = .ok (.goto (-78), 3) := by decide +kernel
theorem dX6_reads_204 : decode cX6_reads 204 = .ok (.iconst 1, 1) := by decide +kernel
theorem dX6_reads_205 : decode cX6_reads 205 = .ok (.ireturn, 1) := by decide +kernel
theorem dX6_does_0 : decode cX6_does 0 = .ok (.aload_n 0, 1) := by decide +kernel
theorem dX6_does_1 : decode cX6_does 1 = .ok (.getfield 112, 3) := by decide +kernel
theorem dX6_does_4 : decode cX6_does 4 = .ok (.iconst 3, 1) := by decide +kernel
theorem dX6_does_5 : decode cX6_does 5 = .ok (.if_icmp .ge 24, 3) := by decide +kernel
theorem dX6_does_8 : decode cX6_does 8 = .ok (.aload_n 0, 1) := by decide +kernel
theorem dX6_does_9 : decode cX6_does 9 = .ok (.iconst 0, 1) := by decide +kernel
theorem dX6_does_10 : decode cX6_does 10 = .ok (.iconst 3, 1) := by decide +kernel
theorem dX6_does_11 : decode cX6_does 11 = .ok (.aload_n 0, 1) := by decide +kernel
theorem dX6_does_12 : decode cX6_does 12 = .ok (.getfield 123, 3) := by decide +kernel
theorem dX6_does_15 : decode cX6_does 15 = .ok (.imul, 1) := by decide +kernel
theorem dX6_does_16 : decode cX6_does 16 = .ok (.aload_n 0, 1) := by decide +kernel
theorem dX6_does_17 : decode cX6_does 17 = .ok (.getfield 112, 3) := by decide +kernel
theorem dX6_does_20 : decode cX6_does 20 = .ok (.iadd, 1) := by decide +kernel
theorem dX6_does_21 : decode cX6_does 21 = .ok (.aload_n 0, 1) := by decide +kernel
theorem dX6_does_22 : decode cX6_does 22 = .ok (.getfield 126, 3) := by decide +kernel
theorem dX6_does_25 : decode cX6_does 25 = .ok (.invokevirtual 96, 3) := by decide +kernel
theorem dX6_does_28 : decode cX6_does 28 = .ok (.ireturn, 1) := by decide +kernel
theorem dX6_does_29 : decode cX6_does 29 = .ok (.aload_n 0, 1) := by decide +kernel
theorem dX6_does_30 : decode cX6_does 30 = .ok (.getfield 7, 3) := by decide +kernel
theorem dX6_does_33 : decode cX6_does 33 = .ok (.aload_n 0, 1) := by decide +kernel
theorem dX6_does_34 : decode cX6_does 34 = .ok (.getfield 112, 3) := by decide +kernel
theorem dX6_does_37 : decode cX6_does 37 = .ok (.iconst 3, 1) := by decide +kernel
theorem dX6_does_38 : decode cX6_does 38 = .ok (.if_icmp .ne 10, 3) := by decide +kernel
theorem dX6_does_41 : decode cX6_does 41 = .ok (.aload_n 0, 1) := by decide +kernel
theorem dX6_does_42 : decode cX6_does 42 = .ok (.getfield 123, 3) := by decide +kernel
theorem dX6_does_45 : decode cX6_does 45 = .ok (.goto 9, 3) := by decide +kernel
theorem dX6_does_48 : decode cX6_does 48 = .ok (.iconst 4, 1) := by decide +kernel
theorem dX6_does_49 : decode cX6_does 49 = .ok (.aload_n 0, 1) := by decide +kernel
theorem dX6_does_50 : decode cX6_does 50 = .ok (.getfield 123, 3) := by decide +kernel
theorem dX6_does_53 : decode cX6_does 53 = .ok (.iadd, 1) := by decide +kernel
theorem dX6_does_54 : decode cX6_does 54 = .ok (.aload_n 0, 1) := by decide +kernel
theorem dX6_does_55 : decode cX6_does 55 = .ok (.getfield 126, 3) := by decide +kernel
theorem dX6_does_58 : decode cX6_does 58 = .ok (.iastore, 1) := by decide +kernel
theorem dX6_does_59 : decode cX6_does 59 = .ok (.iconst 0, 1) := by decide +kernel
theorem dX6_does_60 : decode cX6_does 60 = .ok (.ireturn, 1) := by decide +kernel
theorem dX6_goes_0 : decode cX6_goes 0 = .ok (.aload_n 0, 1) := by decide +kernel
theorem dX6_goes_1 : decode cX6_goes 1 = .ok (.iconst 0, 1) := by decide +kernel
theorem dX6_goes_2 : decode cX6_goes 2 = .ok (.putfield 99, 3) := by decide +kernel
theorem dX6_goes_5 : decode cX6_goes 5 = .ok (.iconst 0, 1) := by decide +kernel
theorem dX6_goes_6 : decode cX6_goes 6 = .ok (.istore_n 2, 1) := by decide +kernel
theorem dX6_goes_7 : decode cX6_goes 7 = .ok (.aload_n 0, 1) := by decide +kernel
theorem dX6_goes_8 : decode cX6_goes 8 = .ok (.invokevirtual 129, 3) := by decide +kernel
theorem dX6_goes_11 : decode cX6_goes 11 = .ok (.ifCond .eq 47, 3) := by decide +kernel
theorem dX6_goes_14 : decode cX6_goes 14 = .ok (.iload_n 2, 1) := by decide +kernel
theorem dX6_goes_15 : decode cX6_goes 15 = .ok (.iload_n 1, 1) := by decide +kernel
theorem dX6_goes_16 : decode cX6_goes 16 = .ok (.ifCond .eq 10, 3) := by decide +kernel
theorem dX6_goes_19 : decode cX6_goes 19 = .ok (.aload_n 0, 1) := by decide +kernel
theorem dX6_goes_20 : decode cX6_goes 20 = .ok (.invokevirtual 132, 3) := by decide +kernel
theorem dX6_goes_23 : decode cX6_goes 23 = .ok (.goto 4, 3) := by decide +kernel
theorem dX6_goes_26 : decode cX6_goes 26 = .ok (.iconst 0, 1) := by decide +kernel
theorem dX6_goes_27 : decode cX6_goes 27 = .ok (.iadd, 1) := by decide +kernel
theorem dX6_goes_28 : decode cX6_goes 28 = .ok (.istore_n 2, 1) := by decide +kernel
theorem dX6_goes_29 : decode cX6_goes 29 = .ok (.aload_n 0, 1) := by decide +kernel
theorem dX6_goes_30 : decode cX6_goes 30 = .ok (.getfield 99, 3) := by decide +kernel
theorem dX6_goes_33 : decode cX6_goes 33 = .ok (.aload_n 0, 1) := by decide +kernel
theorem dX6_goes_34 : decode cX6_goes 34 = .ok (.getfield 102, 3) := by decide +kernel
theorem dX6_goes_37 : decode cX6_goes 37 = .ok (.if_icmp .ne 5, 3) := by decide +kernel
theorem dX6_goes_40 : decode cX6_goes 40 = .ok (.iload_n 2, 1) := by decide +kernel
theorem dX6_goes_41 : decode cX6_goes 41 = .ok (.ireturn, 1) := by decide +kernel
theorem dX6_goes_42 : decode cX6_goes 42 = .ok (.aload_n 0, 1) := by decide +kernel
theorem dX6_goes_43 : decode cX6_goes 43 = .ok (.bipush 59, 2) := by decide +kernel
theorem dX6_goes_45 : decode cX6_goes 45 = .ok (.invokevirtual 109, 3) := by decide +kernel
theorem dX6_goes_48 : decode cX6_goes 48 = .ok (.ifCond .ne (-41), 3) := by decide +kernel
theorem dX6_goes_51 : decode cX6_goes 51 = .ok (.iconst (-1), 1) := by decide +kernel
theorem dX6_goes_52 : decode cX6_goes 52 = .ok (.aload_n 0, 1) := by decide +kernel
theorem dX6_goes_53 : decode cX6_goes 53 = .ok (.getfield 99, 3) := by decide +kernel
theorem dX6_goes_56 : decode cX6_goes 56 = .ok (.isub, 1) := by decide +kernel
theorem dX6_goes_57 : decode cX6_goes 57 = .ok (.ireturn, 1) := by decide +kernel
theorem dX6_goes_58 : decode cX6_goes 58 = .ok (.iconst (-1), 1) := by decide +kernel
theorem dX6_goes_59 : decode cX6_goes 59 = .ok (.aload_n 0, 1) := by decide +kernel
theorem dX6_goes_60 : decode cX6_goes 60 = .ok (.getfield 99, 3) := by decide +kernel
theorem dX6_goes_63 : decode cX6_goes 63 = .ok (.isub, 1) := by decide +kernel
theorem dX6_goes_64 : decode cX6_goes 64 = .ok (.ireturn, 1) := by decide +kernel
theorem dX6_askAll_0 : decode cX6_askAll 0 = .ok (.aload_n 0, 1) := by decide +kernel
theorem dX6_askAll_1 : decode cX6_askAll 1 = .ok (.iconst 0, 1) := by decide +kernel
theorem dX6_askAll_2 : decode cX6_askAll 2 = .ok (.invokevirtual 136, 3) := by decide +kernel
theorem dX6_askAll_5 : decode cX6_askAll 5 = .ok (.istore_n 1, 1) := by decide +kernel
theorem dX6_askAll_6 : decode cX6_askAll 6 = .ok (.iload_n 1, 1) := by decide +kernel
theorem dX6_askAll_7 : decode cX6_askAll 7 = .ok (.ifCond .ge 10, 3) := by decide +kernel
theorem dX6_askAll_10 : decode cX6_askAll 10 = .ok (.bipush (-100), 2) := by decide +kernel
theorem dX6_askAll_12 : decode cX6_askAll 12 = .ok (.iconst (-1), 1) := by decide +kernel
theorem dX6_askAll_13 : decode cX6_askAll 13 = .ok (.iload_n 1, 1) := by decide +kernel
theorem dX6_askAll_14 : decode cX6_askAll 14 = .ok (.isub, 1) := by decide +kernel
theorem dX6_askAll_15 : decode cX6_askAll 15 = .ok (.isub, 1) := by decide +kernel
theorem dX6_askAll_16 : decode cX6_askAll 16 = .ok (.ireturn, 1) := by decide +kernel
theorem dX6_askAll_17 : decode cX6_askAll 17 = .ok (.aload_n 0, 1) := by decide +kernel
theorem dX6_askAll_18 : decode cX6_askAll 18 = .ok (.invokevirtual 86, 3) := by decide +kernel
theorem dX6_askAll_21 : decode cX6_askAll 21 = .ok (.aload_n 0, 1) := by decide +kernel
theorem dX6_askAll_22 : decode cX6_askAll 22 = .ok (.iconst 1, 1) := by decide +kernel
theorem dX6_askAll_23 : decode cX6_askAll 23 = .ok (.invokevirtual 136, 3) := by decide +kernel
theorem dX6_askAll_26 : decode cX6_askAll 26 = .ok (.ireturn, 1) := by decide +kernel
theorem dX6_hasPlan_0 : decode cX6_hasPlan 0 = .ok (.iload_n 1, 1) := by decide +kernel
theorem dX6_hasPlan_1 : decode cX6_hasPlan 1 = .ok (.invokestatic 89, 3) := by decide +kernel
theorem dX6_hasPlan_4 : decode cX6_hasPlan 4 = .ok (.ifCond .eq 21, 3) := by decide +kernel
theorem dX6_hasPlan_7 : decode cX6_hasPlan 7 = .ok (.aload_n 0, 1) := by decide +kernel
theorem dX6_hasPlan_8 : decode cX6_hasPlan 8 = .ok (.getfield 7, 3) := by decide +kernel
theorem dX6_hasPlan_11 : decode cX6_hasPlan 11 = .ok (.iconst 0, 1) := by decide +kernel
theorem dX6_hasPlan_12 : decode cX6_hasPlan 12 = .ok (.iload_n 1, 1) := by decide +kernel
theorem dX6_hasPlan_13 : decode cX6_hasPlan 13 = .ok (.invokestatic 38, 3) := by decide +kernel
theorem dX6_hasPlan_16 : decode cX6_hasPlan 16 = .ok (.iaload, 1) := by decide +kernel
theorem dX6_hasPlan_17 : decode cX6_hasPlan 17 = .ok (.iconst 1, 1) := by decide +kernel
theorem dX6_hasPlan_18 : decode cX6_hasPlan 18 = .ok (.if_icmp .ne 7, 3) := by decide +kernel
theorem dX6_hasPlan_21 : decode cX6_hasPlan 21 = .ok (.iconst 1, 1) := by decide +kernel
theorem dX6_hasPlan_22 : decode cX6_hasPlan 22 = .ok (.goto 4, 3) := by decide +kernel
theorem dX6_hasPlan_25 : decode cX6_hasPlan 25 = .ok (.iconst 0, 1) := by decide +kernel
theorem dX6_hasPlan_26 : decode cX6_hasPlan 26 = .ok (.ireturn, 1) := by decide +kernel
theorem dX6_pinned_0 : decode cX6_pinned 0 = .ok (.iconst 0, 1) := by decide +kernel
theorem dX6_pinned_1 : decode cX6_pinned 1 = .ok (.istore_n 1, 1) := by decide +kernel
theorem dX6_pinned_2 : decode cX6_pinned 2 = .ok (.iconst 0, 1) := by decide +kernel
theorem dX6_pinned_3 : decode cX6_pinned 3 = .ok (.istore_n 2, 1) := by decide +kernel
theorem dX6_pinned_4 : decode cX6_pinned 4 = .ok (.iload_n 2, 1) := by decide +kernel
theorem dX6_pinned_5 : decode cX6_pinned 5 = .ok (.bipush 12, 2) := by decide +kernel
theorem dX6_pinned_7 : decode cX6_pinned 7 = .ok (.if_icmp .ge 36, 3) := by decide +kernel
theorem dX6_pinned_10 : decode cX6_pinned 10 = .ok (.iload_n 1, 1) := by decide +kernel
theorem dX6_pinned_11 : decode cX6_pinned 11 = .ok (.aload_n 0, 1) := by decide +kernel
theorem dX6_pinned_12 : decode cX6_pinned 12 = .ok (.getfield 7, 3) := by decide +kernel
theorem dX6_pinned_15 : decode cX6_pinned 15 = .ok (.iconst 0, 1) := by decide +kernel
theorem dX6_pinned_16 : decode cX6_pinned 16 = .ok (.iload_n 2, 1) := by decide +kernel
theorem dX6_pinned_17 : decode cX6_pinned 17 = .ok (.invokestatic 38, 3) := by decide +kernel
theorem dX6_pinned_20 : decode cX6_pinned 20 = .ok (.iaload, 1) := by decide +kernel
theorem dX6_pinned_21 : decode cX6_pinned 21 = .ok (.aload_n 0, 1) := by decide +kernel
theorem dX6_pinned_22 : decode cX6_pinned 22 = .ok (.getfield 7, 3) := by decide +kernel
theorem dX6_pinned_25 : decode cX6_pinned 25 = .ok (.iconst 0, 1) := by decide +kernel
theorem dX6_pinned_26 : decode cX6_pinned 26 = .ok (.iload_n 2, 1) := by decide +kernel
theorem dX6_pinned_27 : decode cX6_pinned 27 = .ok (.invokestatic 38, 3) := by decide +kernel
theorem dX6_pinned_30 : decode cX6_pinned 30 = .ok (.bipush 8, 2) := by decide +kernel
theorem dX6_pinned_32 : decode cX6_pinned 32 = .ok (.iadd, 1) := by decide +kernel
theorem dX6_pinned_33 : decode cX6_pinned 33 = .ok (.iaload, 1) := by decide +kernel
theorem dX6_pinned_34 : decode cX6_pinned 34 = .ok (.imul, 1) := by decide +kernel
theorem dX6_pinned_35 : decode cX6_pinned 35 = .ok (.iadd, 1) := by decide +kernel
theorem dX6_pinned_36 : decode cX6_pinned 36 = .ok (.istore_n 1, 1) := by decide +kernel
theorem dX6_pinned_37 : decode cX6_pinned 37 = .ok (.iinc 2 1, 3) := by decide +kernel
theorem dX6_pinned_40 : decode cX6_pinned 40 = .ok (.goto (-36), 3) := by decide +kernel
theorem dX6_pinned_43 : decode cX6_pinned 43 = .ok (.iload_n 1, 1) := by decide +kernel
theorem dX6_pinned_44 : decode cX6_pinned 44 = .ok (.ireturn, 1) := by decide +kernel
theorem dX6_pin_0 : decode cX6_pin 0 = .ok (.aload_n 0, 1) := by decide +kernel
theorem dX6_pin_1 : decode cX6_pin 1 = .ok (.iload_n 1, 1) := by decide +kernel
theorem dX6_pin_2 : decode cX6_pin 2 = .ok (.invokevirtual 140, 3) := by decide +kernel
theorem dX6_pin_5 : decode cX6_pin 5 = .ok (.ifCond .ne 5, 3) := by decide +kernel
theorem dX6_pin_8 : decode cX6_pin 8 = .ok (.iconst (-1), 1) := by decide +kernel
theorem dX6_pin_9 : decode cX6_pin 9 = .ok (.ireturn, 1) := by decide +kernel
theorem dX6_pin_10 : decode cX6_pin 10 = .ok (.iconst 0, 1) := by decide +kernel
theorem dX6_pin_11 : decode cX6_pin 11 = .ok (.iload_n 1, 1) := by decide +kernel
theorem dX6_pin_12 : decode cX6_pin 12 = .ok (.invokestatic 38, 3) := by decide +kernel
theorem dX6_pin_15 : decode cX6_pin 15 = .ok (.bipush 8, 2) := by decide +kernel
theorem dX6_pin_17 : decode cX6_pin 17 = .ok (.iadd, 1) := by decide +kernel
theorem dX6_pin_18 : decode cX6_pin 18 = .ok (.istore_n 3, 1) := by decide +kernel
theorem dX6_pin_19 : decode cX6_pin 19 = .ok (.aload_n 0, 1) := by decide +kernel
theorem dX6_pin_20 : decode cX6_pin 20 = .ok (.getfield 7, 3) := by decide +kernel
theorem dX6_pin_23 : decode cX6_pin 23 = .ok (.iload_n 3, 1) := by decide +kernel
theorem dX6_pin_24 : decode cX6_pin 24 = .ok (.iaload, 1) := by decide +kernel
theorem dX6_pin_25 : decode cX6_pin 25 = .ok (.iload_n 2, 1) := by decide +kernel
theorem dX6_pin_26 : decode cX6_pin 26 = .ok (.ifCond .eq 7, 3) := by decide +kernel
theorem dX6_pin_29 : decode cX6_pin 29 = .ok (.iconst 1, 1) := by decide +kernel
theorem dX6_pin_30 : decode cX6_pin 30 = .ok (.goto 4, 3) := by decide +kernel
theorem dX6_pin_33 : decode cX6_pin 33 = .ok (.iconst 0, 1) := by decide +kernel
theorem dX6_pin_34 : decode cX6_pin 34 = .ok (.if_icmp .ne 6, 3) := by decide +kernel
theorem dX6_pin_37 : decode cX6_pin 37 = .ok (.bipush (-4), 2) := by decide +kernel
theorem dX6_pin_39 : decode cX6_pin 39 = .ok (.ireturn, 1) := by decide +kernel
theorem dX6_pin_40 : decode cX6_pin 40 = .ok (.aload_n 0, 1) := by decide +kernel
theorem dX6_pin_41 : decode cX6_pin 41 = .ok (.invokevirtual 86, 3) := by decide +kernel
theorem dX6_pin_44 : decode cX6_pin 44 = .ok (.aload_n 0, 1) := by decide +kernel
theorem dX6_pin_45 : decode cX6_pin 45 = .ok (.getfield 7, 3) := by decide +kernel
theorem dX6_pin_48 : decode cX6_pin 48 = .ok (.iload_n 3, 1) := by decide +kernel
theorem dX6_pin_49 : decode cX6_pin 49 = .ok (.iload_n 2, 1) := by decide +kernel
theorem dX6_pin_50 : decode cX6_pin 50 = .ok (.ifCond .eq 7, 3) := by decide +kernel
theorem dX6_pin_53 : decode cX6_pin 53 = .ok (.iconst 1, 1) := by decide +kernel
theorem dX6_pin_54 : decode cX6_pin 54 = .ok (.goto 4, 3) := by decide +kernel
theorem dX6_pin_57 : decode cX6_pin 57 = .ok (.iconst 0, 1) := by decide +kernel
theorem dX6_pin_58 : decode cX6_pin 58 = .ok (.iastore, 1) := by decide +kernel
theorem dX6_pin_59 : decode cX6_pin 59 = .ok (.aload_n 0, 1) := by decide +kernel
theorem dX6_pin_60 : decode cX6_pin 60 = .ok (.invokevirtual 143, 3) := by decide +kernel
theorem dX6_pin_63 : decode cX6_pin 63 = .ok (.ireturn, 1) := by decide +kernel
theorem dX6_throwOut_0 : decode cX6_throwOut 0 = .ok (.aload_n 0, 1) := by decide +kernel
theorem dX6_throwOut_1 : decode cX6_throwOut 1 = .ok (.iload_n 1, 1) := by decide +kernel
theorem dX6_throwOut_2 : decode cX6_throwOut 2 = .ok (.invokevirtual 140, 3) := by decide +kernel
theorem dX6_throwOut_5 : decode cX6_throwOut 5 = .ok (.ifCond .ne 5, 3) := by decide +kernel
theorem dX6_throwOut_8 : decode cX6_throwOut 8 = .ok (.iconst (-1), 1) := by decide +kernel
theorem dX6_throwOut_9 : decode cX6_throwOut 9 = .ok (.ireturn, 1) := by decide +kernel
theorem dX6_throwOut_10 : decode cX6_throwOut 10 = .ok (.aload_n 0, 1) := by decide +kernel
theorem dX6_throwOut_11 : decode cX6_throwOut 11 = .ok (.invokevirtual 86, 3) := by decide +kernel
theorem dX6_throwOut_14 : decode cX6_throwOut 14 = .ok (.aload_n 0, 1) := by decide +kernel
theorem dX6_throwOut_15 : decode cX6_throwOut 15 = .ok (.getfield 7, 3) := by decide +kernel
theorem dX6_throwOut_18 : decode cX6_throwOut 18 = .ok (.iconst 0, 1) := by decide +kernel
theorem dX6_throwOut_19 : decode cX6_throwOut 19 = .ok (.iload_n 1, 1) := by decide +kernel
theorem dX6_throwOut_20 : decode cX6_throwOut 20 = .ok (.invokestatic 38, 3) := by decide +kernel
theorem dX6_throwOut_23 : decode cX6_throwOut 23 = .ok (.iconst 0, 1) := by decide +kernel
theorem dX6_throwOut_24 : decode cX6_throwOut 24 = .ok (.iastore, 1) := by decide +kernel
theorem dX6_throwOut_25 : decode cX6_throwOut 25 = .ok (.aload_n 0, 1) := by decide +kernel
theorem dX6_throwOut_26 : decode cX6_throwOut 26 = .ok (.iconst 0, 1) := by decide +kernel
theorem dX6_throwOut_27 : decode cX6_throwOut 27 = .ok (.invokevirtual 58, 3) := by decide +kernel
theorem dX6_throwOut_30 : decode cX6_throwOut 30 = .ok (.ireturn, 1) := by decide +kernel
theorem dX6_make_0 : decode cX6_make 0 = .ok (.iload_n 1, 1) := by decide +kernel
theorem dX6_make_1 : decode cX6_make 1 = .ok (.invokestatic 89, 3) := by decide +kernel
theorem dX6_make_4 : decode cX6_make 4 = .ok (.ifCond .ne 5, 3) := by decide +kernel
theorem dX6_make_7 : decode cX6_make 7 = .ok (.iconst (-1), 1) := by decide +kernel
theorem dX6_make_8 : decode cX6_make 8 = .ok (.ireturn, 1) := by decide +kernel
theorem dX6_make_9 : decode cX6_make 9 = .ok (.iload_n 2, 1) := by decide +kernel
theorem dX6_make_10 : decode cX6_make 10 = .ok (.iconst 0, 1) := by decide +kernel
theorem dX6_make_11 : decode cX6_make 11 = .ok (.iconst 2, 1) := by decide +kernel
theorem dX6_make_12 : decode cX6_make 12 = .ok (.invokestatic 17, 3) := by decide +kernel
theorem dX6_make_15 : decode cX6_make 15 = .ok (.ifCond .eq 35, 3) := by decide +kernel
theorem dX6_make_18 : decode cX6_make 18 = .ok (.iload_n 1, 1) := by decide +kernel
theorem dX6_make_19 : decode cX6_make 19 = .ok (.iload_n 3, 1) := by decide +kernel
theorem dX6_make_20 : decode cX6_make 20 = .ok (.invokestatic 93, 3) := by decide +kernel
theorem dX6_make_23 : decode cX6_make 23 = .ok (.ifCond .eq 27, 3) := by decide +kernel
theorem dX6_make_26 : decode cX6_make 26 = .ok (.iload 4, 2) := by decide +kernel
theorem dX6_make_28 : decode cX6_make 28 = .ok (.iconst 0, 1) := by decide +kernel
theorem dX6_make_29 : decode cX6_make 29 = .ok (.sipush 9999, 3) := by decide +kernel
theorem dX6_make_32 : decode cX6_make 32 = .ok (.invokestatic 17, 3) := by decide +kernel
theorem dX6_make_35 : decode cX6_make 35 = .ok (.ifCond .eq 15, 3) := by decide +kernel
theorem dX6_make_38 : decode cX6_make 38 = .ok (.iload 5, 2) := by decide +kernel
theorem dX6_make_40 : decode cX6_make 40 = .ok (.iload 4, 2) := by decide +kernel
theorem dX6_make_42 : decode cX6_make 42 = .ok (.ldc 146, 2) := by decide +kernel
theorem dX6_make_44 : decode cX6_make 44 = .ok (.invokestatic 17, 3) := by decide +kernel
theorem dX6_make_47 : decode cX6_make 47 = .ok (.ifCond .ne 6, 3) := by decide +kernel
theorem dX6_make_50 : decode cX6_make 50 = .ok (.bipush (-2), 2) := by decide +kernel
theorem dX6_make_52 : decode cX6_make 52 = .ok (.ireturn, 1) := by decide +kernel
theorem dX6_make_53 : decode cX6_make 53 = .ok (.aload_n 0, 1) := by decide +kernel
theorem dX6_make_54 : decode cX6_make 54 = .ok (.iconst 0, 1) := by decide +kernel
theorem dX6_make_55 : decode cX6_make 55 = .ok (.bipush 6, 2) := by decide +kernel
theorem dX6_make_57 : decode cX6_make 57 = .ok (.invokevirtual 25, 3) := by decide +kernel
theorem dX6_make_60 : decode cX6_make 60 = .ok (.sipush 960, 3) := by decide +kernel
theorem dX6_make_63 : decode cX6_make 63 = .ok (.istore 6, 2) := by decide +kernel
theorem dX6_make_65 : decode cX6_make 65 = .ok (.aload_n 0, 1) := by decide +kernel
theorem dX6_make_66 : decode cX6_make 66 = .ok (.iload 6, 2) := by decide +kernel
theorem dX6_make_68 : decode cX6_make 68 = .ok (.iload_n 1, 1) := by decide +kernel
theorem dX6_make_69 : decode cX6_make 69 = .ok (.invokevirtual 79, 3) := by decide +kernel
theorem dX6_make_72 : decode cX6_make 72 = .ok (.ifCond .ne 6, 3) := by decide +kernel
theorem dX6_make_75 : decode cX6_make 75 = .ok (.bipush (-4), 2) := by decide +kernel
theorem dX6_make_77 : decode cX6_make 77 = .ok (.ireturn, 1) := by decide +kernel
theorem dX6_make_78 : decode cX6_make 78 = .ok (.aload_n 0, 1) := by decide +kernel
theorem dX6_make_79 : decode cX6_make 79 = .ok (.iload 6, 2) := by decide +kernel
theorem dX6_make_81 : decode cX6_make 81 = .ok (.iload_n 1, 1) := by decide +kernel
theorem dX6_make_82 : decode cX6_make 82 = .ok (.iload_n 2, 1) := by decide +kernel
theorem dX6_make_83 : decode cX6_make 83 = .ok (.iload_n 3, 1) := by decide +kernel
theorem dX6_make_84 : decode cX6_make 84 = .ok (.iload 4, 2) := by decide +kernel
theorem dX6_make_86 : decode cX6_make 86 = .ok (.iload 5, 2) := by decide +kernel
theorem dX6_make_88 : decode cX6_make 88 = .ok (.invokevirtual 82, 3) := by decide +kernel
theorem dX6_make_91 : decode cX6_make 91 = .ok (.aload_n 0, 1) := by decide +kernel
theorem dX6_make_92 : decode cX6_make 92 = .ok (.invokevirtual 86, 3) := by decide +kernel
theorem dX6_make_95 : decode cX6_make 95 = .ok (.aload_n 0, 1) := by decide +kernel
theorem dX6_make_96 : decode cX6_make 96 = .ok (.bipush 6, 2) := by decide +kernel
theorem dX6_make_98 : decode cX6_make 98 = .ok (.iconst 0, 1) := by decide +kernel
theorem dX6_make_99 : decode cX6_make 99 = .ok (.invokevirtual 25, 3) := by decide +kernel
theorem dX6_make_102 : decode cX6_make 102 = .ok (.aload_n 0, 1) := by decide +kernel
theorem dX6_make_103 : decode cX6_make 103 = .ok (.iconst 0, 1) := by decide +kernel
theorem dX6_make_104 : decode cX6_make 104 = .ok (.invokevirtual 58, 3) := by decide +kernel
theorem dX6_make_107 : decode cX6_make 107 = .ok (.ireturn, 1) := by decide +kernel
theorem dX6_lowest_0 : decode cX6_lowest 0 = .ok (.iload_n 0, 1) := by decide +kernel
theorem dX6_lowest_1 : decode cX6_lowest 1 = .ok (.ifCond .ne 7, 3) := by decide +kernel
theorem dX6_lowest_4 : decode cX6_lowest 4 = .ok (.iconst 0, 1) := by decide +kernel
theorem dX6_lowest_5 : decode cX6_lowest 5 = .ok (.goto 4, 3) := by decide +kernel
theorem dX6_lowest_8 : decode cX6_lowest 8 = .ok (.iconst 1, 1) := by decide +kernel
theorem dX6_lowest_9 : decode cX6_lowest 9 = .ok (.ireturn, 1) := by decide +kernel
theorem dX6_highest_0 : decode cX6_highest 0 = .ok (.iload_n 0, 1) := by decide +kernel
theorem dX6_highest_1 : decode cX6_highest 1 = .ok (.ifCond .eq 8, 3) := by decide +kernel
theorem dX6_highest_4 : decode cX6_highest 4 = .ok (.iload_n 0, 1) := by decide +kernel
theorem dX6_highest_5 : decode cX6_highest 5 = .ok (.iconst 2, 1) := by decide +kernel
theorem dX6_highest_6 : decode cX6_highest 6 = .ok (.if_icmp .ne 9, 3) := by decide +kernel
theorem dX6_highest_9 : decode cX6_highest 9 = .ok (.sipush 999, 3) := by decide +kernel
theorem dX6_highest_12 : decode cX6_highest 12 = .ok (.goto 15, 3) := by decide +kernel
theorem dX6_highest_15 : decode cX6_highest 15 = .ok (.iload_n 0, 1) := by decide +kernel
theorem dX6_highest_16 : decode cX6_highest 16 = .ok (.iconst 3, 1) := by decide +kernel
theorem dX6_highest_17 : decode cX6_highest 17 = .ok (.if_icmp .ne 8, 3) := by decide +kernel
theorem dX6_highest_20 : decode cX6_highest 20 = .ok (.bipush 12, 2) := by decide +kernel
theorem dX6_highest_22 : decode cX6_highest 22 = .ok (.goto 5, 3) := by decide +kernel
theorem dX6_highest_25 : decode cX6_highest 25 = .ok (.bipush 20, 2) := by decide +kernel
theorem dX6_highest_27 : decode cX6_highest 27 = .ok (.ireturn, 1) := by decide +kernel
theorem dX6_set_0 : decode cX6_set 0 = .ok (.iload_n 1, 1) := by decide +kernel
theorem dX6_set_1 : decode cX6_set 1 = .ok (.iconst 0, 1) := by decide +kernel
theorem dX6_set_2 : decode cX6_set 2 = .ok (.iconst 4, 1) := by decide +kernel
theorem dX6_set_3 : decode cX6_set 3 = .ok (.invokestatic 17, 3) := by decide +kernel
theorem dX6_set_6 : decode cX6_set 6 = .ok (.ifCond .ne 5, 3) := by decide +kernel
theorem dX6_set_9 : decode cX6_set 9 = .ok (.iconst (-1), 1) := by decide +kernel
theorem dX6_set_10 : decode cX6_set 10 = .ok (.ireturn, 1) := by decide +kernel
theorem dX6_set_11 : decode cX6_set 11 = .ok (.iload_n 2, 1) := by decide +kernel
theorem dX6_set_12 : decode cX6_set 12 = .ok (.iload_n 1, 1) := by decide +kernel
theorem dX6_set_13 : decode cX6_set 13 = .ok (.invokestatic 147, 3) := by decide +kernel
theorem dX6_set_16 : decode cX6_set 16 = .ok (.iload_n 1, 1) := by decide +kernel
theorem dX6_set_17 : decode cX6_set 17 = .ok (.invokestatic 150, 3) := by decide +kernel
theorem dX6_set_20 : decode cX6_set 20 = .ok (.invokestatic 17, 3) := by decide +kernel
theorem dX6_set_23 : decode cX6_set 23 = .ok (.ifCond .ne 6, 3) := by decide +kernel
theorem dX6_set_26 : decode cX6_set 26 = .ok (.bipush (-2), 2) := by decide +kernel
theorem dX6_set_28 : decode cX6_set 28 = .ok (.ireturn, 1) := by decide +kernel
theorem dX6_set_29 : decode cX6_set 29 = .ok (.aload_n 0, 1) := by decide +kernel
theorem dX6_set_30 : decode cX6_set 30 = .ok (.getfield 7, 3) := by decide +kernel
theorem dX6_set_33 : decode cX6_set 33 = .ok (.bipush 8, 2) := by decide +kernel
theorem dX6_set_35 : decode cX6_set 35 = .ok (.iload_n 1, 1) := by decide +kernel
theorem dX6_set_36 : decode cX6_set 36 = .ok (.iadd, 1) := by decide +kernel
theorem dX6_set_37 : decode cX6_set 37 = .ok (.iaload, 1) := by decide +kernel
theorem dX6_set_38 : decode cX6_set 38 = .ok (.istore_n 3, 1) := by decide +kernel
theorem dX6_set_39 : decode cX6_set 39 = .ok (.iload_n 3, 1) := by decide +kernel
theorem dX6_set_40 : decode cX6_set 40 = .ok (.iload_n 2, 1) := by decide +kernel
theorem dX6_set_41 : decode cX6_set 41 = .ok (.if_icmp .ne 6, 3) := by decide +kernel
theorem dX6_set_44 : decode cX6_set 44 = .ok (.bipush (-4), 2) := by decide +kernel
theorem dX6_set_46 : decode cX6_set 46 = .ok (.ireturn, 1) := by decide +kernel
theorem dX6_set_47 : decode cX6_set 47 = .ok (.aload_n 0, 1) := by decide +kernel
theorem dX6_set_48 : decode cX6_set 48 = .ok (.invokevirtual 86, 3) := by decide +kernel
theorem dX6_set_51 : decode cX6_set 51 = .ok (.aload_n 0, 1) := by decide +kernel
theorem dX6_set_52 : decode cX6_set 52 = .ok (.getfield 7, 3) := by decide +kernel
theorem dX6_set_55 : decode cX6_set 55 = .ok (.bipush 8, 2) := by decide +kernel
theorem dX6_set_57 : decode cX6_set 57 = .ok (.iload_n 1, 1) := by decide +kernel
theorem dX6_set_58 : decode cX6_set 58 = .ok (.iadd, 1) := by decide +kernel
theorem dX6_set_59 : decode cX6_set 59 = .ok (.iload_n 2, 1) := by decide +kernel
theorem dX6_set_60 : decode cX6_set 60 = .ok (.iastore, 1) := by decide +kernel
theorem dX6_set_61 : decode cX6_set 61 = .ok (.aload_n 0, 1) := by decide +kernel
theorem dX6_set_62 : decode cX6_set 62 = .ok (.iconst 0, 1) := by decide +kernel
theorem dX6_set_63 : decode cX6_set 63 = .ok (.invokevirtual 58, 3) := by decide +kernel
theorem dX6_set_66 : decode cX6_set 66 = .ok (.aload_n 0, 1) := by decide +kernel
theorem dX6_set_67 : decode cX6_set 67 = .ok (.getfield 7, 3) := by decide +kernel
theorem dX6_set_70 : decode cX6_set 70 = .ok (.bipush 11, 2) := by decide +kernel
theorem dX6_set_72 : decode cX6_set 72 = .ok (.iaload, 1) := by decide +kernel
theorem dX6_set_73 : decode cX6_set 73 = .ok (.if_icmp .le 24, 3) := by decide +kernel
theorem dX6_set_76 : decode cX6_set 76 = .ok (.aload_n 0, 1) := by decide +kernel
theorem dX6_set_77 : decode cX6_set 77 = .ok (.iconst 0, 1) := by decide +kernel
theorem dX6_set_78 : decode cX6_set 78 = .ok (.invokevirtual 52, 3) := by decide +kernel
theorem dX6_set_81 : decode cX6_set 81 = .ok (.ifCond .lt 16, 3) := by decide +kernel
theorem dX6_set_84 : decode cX6_set 84 = .ok (.iload_n 1, 1) := by decide +kernel
theorem dX6_set_85 : decode cX6_set 85 = .ok (.iconst 3, 1) := by decide +kernel
theorem dX6_set_86 : decode cX6_set 86 = .ok (.if_icmp .ne 11, 3) := by decide +kernel
theorem dX6_set_89 : decode cX6_set 89 = .ok (.aload_n 0, 1) := by decide +kernel
theorem dX6_set_90 : decode cX6_set 90 = .ok (.iconst 0, 1) := by decide +kernel
theorem dX6_set_91 : decode cX6_set 91 = .ok (.invokevirtual 61, 3) := by decide +kernel
theorem dX6_set_94 : decode cX6_set 94 = .ok (.goto (-33), 3) := by decide +kernel
theorem dX6_set_97 : decode cX6_set 97 = .ok (.iload_n 3, 1) := by decide +kernel
theorem dX6_set_98 : decode cX6_set 98 = .ok (.ireturn, 1) := by decide +kernel
theorem dX6_type_0 : decode cX6_type 0 = .ok (.aload_n 0, 1) := by decide +kernel
theorem dX6_type_1 : decode cX6_type 1 = .ok (.getfield 102, 3) := by decide +kernel
theorem dX6_type_4 : decode cX6_type 4 = .ok (.bipush 80, 2) := by decide +kernel
theorem dX6_type_6 : decode cX6_type 6 = .ok (.if_icmp .ne 6, 3) := by decide +kernel
theorem dX6_type_9 : decode cX6_type 9 = .ok (.bipush (-3), 2) := by decide +kernel
theorem dX6_type_11 : decode cX6_type 11 = .ok (.ireturn, 1) := by decide +kernel
theorem dX6_type_12 : decode cX6_type 12 = .ok (.aload_n 0, 1) := by decide +kernel
theorem dX6_type_13 : decode cX6_type 13 = .ok (.getfield 13, 3) := by decide +kernel
theorem dX6_type_16 : decode cX6_type 16 = .ok (.aload_n 0, 1) := by decide +kernel
theorem dX6_type_17 : decode cX6_type 17 = .ok (.getfield 102, 3) := by decide +kernel
theorem dX6_type_20 : decode cX6_type 20 = .ok (.iload_n 1, 1) := by decide +kernel
theorem dX6_type_21 : decode cX6_type 21 = .ok (.castore, 1) := by decide +kernel
theorem dX6_type_22 : decode cX6_type 22 = .ok (.aload_n 0, 1) := by decide +kernel
theorem dX6_type_23 : decode cX6_type 23 = .ok (.dup, 1) := by decide +kernel
theorem dX6_type_24 : decode cX6_type 24 = .ok (.getfield 102, 3) := by decide +kernel
theorem dX6_type_27 : decode cX6_type 27 = .ok (.iconst 1, 1) := by decide +kernel
theorem dX6_type_28 : decode cX6_type 28 = .ok (.iadd, 1) := by decide +kernel
theorem dX6_type_29 : decode cX6_type 29 = .ok (.putfield 102, 3) := by decide +kernel
theorem dX6_type_32 : decode cX6_type 32 = .ok (.aload_n 0, 1) := by decide +kernel
theorem dX6_type_33 : decode cX6_type 33 = .ok (.getfield 102, 3) := by decide +kernel
theorem dX6_type_36 : decode cX6_type 36 = .ok (.ireturn, 1) := by decide +kernel
theorem dX6_clearText_0 : decode cX6_clearText 0 = .ok (.aload_n 0, 1) := by decide +kernel
theorem dX6_clearText_1 : decode cX6_clearText 1 = .ok (.getfield 102, 3) := by decide +kernel
theorem dX6_clearText_4 : decode cX6_clearText 4 = .ok (.istore_n 1, 1) := by decide +kernel
theorem dX6_clearText_5 : decode cX6_clearText 5 = .ok (.aload_n 0, 1) := by decide +kernel
theorem dX6_clearText_6 : decode cX6_clearText 6 = .ok (.iconst 0, 1) := by decide +kernel
theorem dX6_clearText_7 : decode cX6_clearText 7 = .ok (.putfield 102, 3) := by decide +kernel
theorem dX6_clearText_10 : decode cX6_clearText 10 = .ok (.iload_n 1, 1) := by decide +kernel
theorem dX6_clearText_11 : decode cX6_clearText 11 = .ok (.ireturn, 1) := by decide +kernel
theorem dX6_undo_0 : decode cX6_undo 0 = .ok (.aload_n 0, 1) := by decide +kernel
theorem dX6_undo_1 : decode cX6_undo 1 = .ok (.getfield 21, 3) := by decide +kernel
theorem dX6_undo_4 : decode cX6_undo 4 = .ok (.ifCond .ne 6, 3) := by decide +kernel
theorem dX6_undo_7 : decode cX6_undo 7 = .ok (.bipush (-4), 2) := by decide +kernel
theorem dX6_undo_9 : decode cX6_undo 9 = .ok (.ireturn, 1) := by decide +kernel
theorem dX6_undo_10 : decode cX6_undo 10 = .ok (.aload_n 0, 1) := by decide +kernel
theorem dX6_undo_11 : decode cX6_undo 11 = .ok (.aload_n 0, 1) := by decide +kernel
theorem dX6_undo_12 : decode cX6_undo 12 = .ok (.getfield 21, 3) := by decide +kernel
theorem dX6_undo_15 : decode cX6_undo 15 = .ok (.iconst 0, 1) := by decide +kernel
theorem dX6_undo_16 : decode cX6_undo 16 = .ok (.invokevirtual 25, 3) := by decide +kernel
theorem dX6_undo_19 : decode cX6_undo 19 = .ok (.aload_n 0, 1) := by decide +kernel
theorem dX6_undo_20 : decode cX6_undo 20 = .ok (.dup, 1) := by decide +kernel
theorem dX6_undo_21 : decode cX6_undo 21 = .ok (.getfield 21, 3) := by decide +kernel
theorem dX6_undo_24 : decode cX6_undo 24 = .ok (.iconst 1, 1) := by decide +kernel
theorem dX6_undo_25 : decode cX6_undo 25 = .ok (.isub, 1) := by decide +kernel
theorem dX6_undo_26 : decode cX6_undo 26 = .ok (.putfield 21, 3) := by decide +kernel
theorem dX6_undo_29 : decode cX6_undo 29 = .ok (.aload_n 0, 1) := by decide +kernel
theorem dX6_undo_30 : decode cX6_undo 30 = .ok (.getfield 21, 3) := by decide +kernel
theorem dX6_undo_33 : decode cX6_undo 33 = .ok (.ireturn, 1) := by decide +kernel
theorem dX6_keep_0 : decode cX6_keep 0 = .ok (.aload_n 0, 1) := by decide +kernel
theorem dX6_keep_1 : decode cX6_keep 1 = .ok (.iconst 0, 1) := by decide +kernel
theorem dX6_keep_2 : decode cX6_keep 2 = .ok (.iconst 5, 1) := by decide +kernel
theorem dX6_keep_3 : decode cX6_keep 3 = .ok (.invokevirtual 25, 3) := by decide +kernel
theorem dX6_keep_6 : decode cX6_keep 6 = .ok (.aload_n 0, 1) := by decide +kernel
theorem dX6_keep_7 : decode cX6_keep 7 = .ok (.iconst 1, 1) := by decide +kernel
theorem dX6_keep_8 : decode cX6_keep 8 = .ok (.putfield 153, 3) := by decide +kernel
theorem dX6_keep_11 : decode cX6_keep 11 = .ok (.aload_n 0, 1) := by decide +kernel
theorem dX6_keep_12 : decode cX6_keep 12 = .ok (.iconst 0, 1) := by decide +kernel
theorem dX6_keep_13 : decode cX6_keep 13 = .ok (.invokevirtual 58, 3) := by decide +kernel
theorem dX6_keep_16 : decode cX6_keep 16 = .ok (.ireturn, 1) := by decide +kernel
theorem dX6_restore_0 : decode cX6_restore 0 = .ok (.aload_n 0, 1) := by decide +kernel
theorem dX6_restore_1 : decode cX6_restore 1 = .ok (.getfield 153, 3) := by decide +kernel
theorem dX6_restore_4 : decode cX6_restore 4 = .ok (.ifCond .ne 6, 3) := by decide +kernel
theorem dX6_restore_7 : decode cX6_restore 7 = .ok (.bipush (-4), 2) := by decide +kernel
theorem dX6_restore_9 : decode cX6_restore 9 = .ok (.ireturn, 1) := by decide +kernel
theorem dX6_restore_10 : decode cX6_restore 10 = .ok (.aload_n 0, 1) := by decide +kernel
theorem dX6_restore_11 : decode cX6_restore 11 = .ok (.invokevirtual 86, 3) := by decide +kernel
theorem dX6_restore_14 : decode cX6_restore 14 = .ok (.aload_n 0, 1) := by decide +kernel
theorem dX6_restore_15 : decode cX6_restore 15 = .ok (.iconst 5, 1) := by decide +kernel
theorem dX6_restore_16 : decode cX6_restore 16 = .ok (.iconst 0, 1) := by decide +kernel
theorem dX6_restore_17 : decode cX6_restore 17 = .ok (.invokevirtual 25, 3) := by decide +kernel
theorem dX6_restore_20 : decode cX6_restore 20 = .ok (.aload_n 0, 1) := by decide +kernel
theorem dX6_restore_21 : decode cX6_restore 21 = .ok (.iconst 0, 1) := by decide +kernel
theorem dX6_restore_22 : decode cX6_restore 22 = .ok (.invokevirtual 58, 3) := by decide +kernel
theorem dX6_restore_25 : decode cX6_restore 25 = .ok (.ireturn, 1) := by decide +kernel
theorem dX6_cost_0 : decode cX6_cost 0 = .ok (.iload_n 1, 1) := by decide +kernel
theorem dX6_cost_1 : decode cX6_cost 1 = .ok (.invokestatic 89, 3) := by decide +kernel
theorem dX6_cost_4 : decode cX6_cost 4 = .ok (.ifCond .ne 5, 3) := by decide +kernel
theorem dX6_cost_7 : decode cX6_cost 7 = .ok (.iconst (-1), 1) := by decide +kernel
theorem dX6_cost_8 : decode cX6_cost 8 = .ok (.ireturn, 1) := by decide +kernel
theorem dX6_cost_9 : decode cX6_cost 9 = .ok (.iload_n 2, 1) := by decide +kernel
theorem dX6_cost_10 : decode cX6_cost 10 = .ok (.iconst 0, 1) := by decide +kernel
theorem dX6_cost_11 : decode cX6_cost 11 = .ok (.iconst 2, 1) := by decide +kernel
theorem dX6_cost_12 : decode cX6_cost 12 = .ok (.invokestatic 17, 3) := by decide +kernel
theorem dX6_cost_15 : decode cX6_cost 15 = .ok (.ifCond .eq 22, 3) := by decide +kernel
theorem dX6_cost_18 : decode cX6_cost 18 = .ok (.iload_n 1, 1) := by decide +kernel
theorem dX6_cost_19 : decode cX6_cost 19 = .ok (.iload_n 3, 1) := by decide +kernel
theorem dX6_cost_20 : decode cX6_cost 20 = .ok (.invokestatic 93, 3) := by decide +kernel
theorem dX6_cost_23 : decode cX6_cost 23 = .ok (.ifCond .eq 14, 3) := by decide +kernel
theorem dX6_cost_26 : decode cX6_cost 26 = .ok (.aload_n 0, 1) := by decide +kernel
theorem dX6_cost_27 : decode cX6_cost 27 = .ok (.iconst 0, 1) := by decide +kernel
theorem dX6_cost_28 : decode cX6_cost 28 = .ok (.iload_n 1, 1) := by decide +kernel
theorem dX6_cost_29 : decode cX6_cost 29 = .ok (.iload_n 2, 1) := by decide +kernel
theorem dX6_cost_30 : decode cX6_cost 30 = .ok (.iload_n 3, 1) := by decide +kernel
theorem dX6_cost_31 : decode cX6_cost 31 = .ok (.invokevirtual 34, 3) := by decide +kernel
theorem dX6_cost_34 : decode cX6_cost 34 = .ok (.goto 5, 3) := by decide +kernel
theorem dX6_cost_37 : decode cX6_cost 37 = .ok (.bipush (-2), 2) := by decide +kernel
theorem dX6_cost_39 : decode cX6_cost 39 = .ok (.ireturn, 1) := by decide +kernel
theorem dX6_cheapest_0 : decode cX6_cheapest 0 = .ok (.iload_n 1, 1) := by decide +kernel
theorem dX6_cheapest_1 : decode cX6_cheapest 1 = .ok (.invokestatic 89, 3) := by decide +kernel
theorem dX6_cheapest_4 : decode cX6_cheapest 4 = .ok (.ifCond .ne 5, 3) := by decide +kernel
theorem dX6_cheapest_7 : decode cX6_cheapest 7 = .ok (.iconst (-1), 1) := by decide +kernel
theorem dX6_cheapest_8 : decode cX6_cheapest 8 = .ok (.ireturn, 1) := by decide +kernel
theorem dX6_cheapest_9 : decode cX6_cheapest 9 = .ok (.iload_n 1, 1) := by decide +kernel
theorem dX6_cheapest_10 : decode cX6_cheapest 10 = .ok (.iload_n 2, 1) := by decide +kernel
theorem dX6_cheapest_11 : decode cX6_cheapest 11 = .ok (.invokestatic 93, 3) := by decide +kernel
theorem dX6_cheapest_14 : decode cX6_cheapest 14 = .ok (.ifCond .eq 13, 3) := by decide +kernel
theorem dX6_cheapest_17 : decode cX6_cheapest 17 = .ok (.aload_n 0, 1) := by decide +kernel
theorem dX6_cheapest_18 : decode cX6_cheapest 18 = .ok (.iconst 0, 1) := by decide +kernel
theorem dX6_cheapest_19 : decode cX6_cheapest 19 = .ok (.iload_n 1, 1) := by decide +kernel
theorem dX6_cheapest_20 : decode cX6_cheapest 20 = .ok (.iload_n 2, 1) := by decide +kernel
theorem dX6_cheapest_21 : decode cX6_cheapest 21 = .ok (.invokevirtual 69, 3) := by decide +kernel
theorem dX6_cheapest_24 : decode cX6_cheapest 24 = .ok (.goto 5, 3) := by decide +kernel
theorem dX6_cheapest_27 : decode cX6_cheapest 27 = .ok (.bipush (-2), 2) := by decide +kernel
theorem dX6_cheapest_29 : decode cX6_cheapest 29 = .ok (.ireturn, 1) := by decide +kernel
theorem dX6_plan_0 : decode cX6_plan 0 = .ok (.aload_n 0, 1) := by decide +kernel
theorem dX6_plan_1 : decode cX6_plan 1 = .ok (.iload_n 1, 1) := by decide +kernel
theorem dX6_plan_2 : decode cX6_plan 2 = .ok (.invokevirtual 140, 3) := by decide +kernel
theorem dX6_plan_5 : decode cX6_plan 5 = .ok (.ifCond .ne 5, 3) := by decide +kernel
theorem dX6_plan_8 : decode cX6_plan 8 = .ok (.iconst (-1), 1) := by decide +kernel
theorem dX6_plan_9 : decode cX6_plan 9 = .ok (.ireturn, 1) := by decide +kernel
theorem dX6_plan_10 : decode cX6_plan 10 = .ok (.iconst 0, 1) := by decide +kernel
theorem dX6_plan_11 : decode cX6_plan 11 = .ok (.iload_n 1, 1) := by decide +kernel
theorem dX6_plan_12 : decode cX6_plan 12 = .ok (.invokestatic 38, 3) := by decide +kernel
theorem dX6_plan_15 : decode cX6_plan 15 = .ok (.istore_n 3, 1) := by decide +kernel
theorem dX6_plan_16 : decode cX6_plan 16 = .ok (.iload_n 2, 1) := by decide +kernel
theorem dX6_plan_17 : decode cX6_plan 17 = .ok (.tableswitch 150 0 10 #[59, 59, 59, 59, 59, 70, 77, 101, 111, 121, 140], 59) := by decide +kernel
theorem dX6_plan_76 : decode cX6_plan 76 = .ok (.aload_n 0, 1) := by decide +kernel
theorem dX6_plan_77 : decode cX6_plan 77 = .ok (.getfield 7, 3) := by decide +kernel
theorem dX6_plan_80 : decode cX6_plan 80 = .ok (.iload_n 3, 1) := by decide +kernel
theorem dX6_plan_81 : decode cX6_plan 81 = .ok (.iconst 1, 1) := by decide +kernel
theorem dX6_plan_82 : decode cX6_plan 82 = .ok (.iadd, 1) := by decide +kernel
theorem dX6_plan_83 : decode cX6_plan 83 = .ok (.iload_n 2, 1) := by decide +kernel
theorem dX6_plan_84 : decode cX6_plan 84 = .ok (.iadd, 1) := by decide +kernel
theorem dX6_plan_85 : decode cX6_plan 85 = .ok (.iaload, 1) := by decide +kernel
theorem dX6_plan_86 : decode cX6_plan 86 = .ok (.ireturn, 1) := by decide +kernel
theorem dX6_plan_87 : decode cX6_plan 87 = .ok (.aload_n 0, 1) := by decide +kernel
theorem dX6_plan_88 : decode cX6_plan 88 = .ok (.iconst 0, 1) := by decide +kernel
theorem dX6_plan_89 : decode cX6_plan 89 = .ok (.iload_n 1, 1) := by decide +kernel
theorem dX6_plan_90 : decode cX6_plan 90 = .ok (.invokevirtual 42, 3) := by decide +kernel
theorem dX6_plan_93 : decode cX6_plan 93 = .ok (.ireturn, 1) := by decide +kernel
theorem dX6_plan_94 : decode cX6_plan 94 = .ok (.aload_n 0, 1) := by decide +kernel
theorem dX6_plan_95 : decode cX6_plan 95 = .ok (.iconst 0, 1) := by decide +kernel
theorem dX6_plan_96 : decode cX6_plan 96 = .ok (.iload_n 1, 1) := by decide +kernel
theorem dX6_plan_97 : decode cX6_plan 97 = .ok (.invokevirtual 45, 3) := by decide +kernel
theorem dX6_plan_100 : decode cX6_plan 100 = .ok (.ifCond .ne 12, 3) := by decide +kernel
theorem dX6_plan_103 : decode cX6_plan 103 = .ok (.aload_n 0, 1) := by decide +kernel
theorem dX6_plan_104 : decode cX6_plan 104 = .ok (.iconst 0, 1) := by decide +kernel
theorem dX6_plan_105 : decode cX6_plan 105 = .ok (.iload_n 1, 1) := by decide +kernel
theorem dX6_plan_106 : decode cX6_plan 106 = .ok (.invokevirtual 49, 3) := by decide +kernel
theorem dX6_plan_109 : decode cX6_plan 109 = .ok (.ifCond .eq 7, 3) := by decide +kernel
theorem dX6_plan_112 : decode cX6_plan 112 = .ok (.iconst 1, 1) := by decide +kernel
theorem dX6_plan_113 : decode cX6_plan 113 = .ok (.goto 4, 3) := by decide +kernel
theorem dX6_plan_116 : decode cX6_plan 116 = .ok (.iconst 0, 1) := by decide +kernel
theorem dX6_plan_117 : decode cX6_plan 117 = .ok (.ireturn, 1) := by decide +kernel
theorem dX6_plan_118 : decode cX6_plan 118 = .ok (.aload_n 0, 1) := by decide +kernel
theorem dX6_plan_119 : decode cX6_plan 119 = .ok (.getfield 7, 3) := by decide +kernel
theorem dX6_plan_122 : decode cX6_plan 122 = .ok (.iload_n 3, 1) := by decide +kernel
theorem dX6_plan_123 : decode cX6_plan 123 = .ok (.bipush 8, 2) := by decide +kernel
theorem dX6_plan_125 : decode cX6_plan 125 = .ok (.iadd, 1) := by decide +kernel
theorem dX6_plan_126 : decode cX6_plan 126 = .ok (.iaload, 1) := by decide +kernel
theorem dX6_plan_127 : decode cX6_plan 127 = .ok (.ireturn, 1) := by decide +kernel
theorem dX6_plan_128 : decode cX6_plan 128 = .ok (.aload_n 0, 1) := by decide +kernel
theorem dX6_plan_129 : decode cX6_plan 129 = .ok (.getfield 7, 3) := by decide +kernel
theorem dX6_plan_132 : decode cX6_plan 132 = .ok (.iload_n 3, 1) := by decide +kernel
theorem dX6_plan_133 : decode cX6_plan 133 = .ok (.bipush 9, 2) := by decide +kernel
theorem dX6_plan_135 : decode cX6_plan 135 = .ok (.iadd, 1) := by decide +kernel
theorem dX6_plan_136 : decode cX6_plan 136 = .ok (.iaload, 1) := by decide +kernel
theorem dX6_plan_137 : decode cX6_plan 137 = .ok (.ireturn, 1) := by decide +kernel
theorem dX6_plan_138 : decode cX6_plan 138 = .ok (.aload_n 0, 1) := by decide +kernel
theorem dX6_plan_139 : decode cX6_plan 139 = .ok (.getfield 7, 3) := by decide +kernel
theorem dX6_plan_142 : decode cX6_plan 142 = .ok (.sipush 145, 3) := by decide +kernel
theorem dX6_plan_145 : decode cX6_plan 145 = .ok (.iaload, 1) := by decide +kernel
theorem dX6_plan_146 : decode cX6_plan 146 = .ok (.aload_n 0, 1) := by decide +kernel
theorem dX6_plan_147 : decode cX6_plan 147 = .ok (.getfield 7, 3) := by decide +kernel
theorem dX6_plan_150 : decode cX6_plan 150 = .ok (.iload_n 3, 1) := by decide +kernel
theorem dX6_plan_151 : decode cX6_plan 151 = .ok (.bipush 7, 2) := by decide +kernel
theorem dX6_plan_153 : decode cX6_plan 153 = .ok (.iadd, 1) := by decide +kernel
theorem dX6_plan_154 : decode cX6_plan 154 = .ok (.iaload, 1) := by decide +kernel
theorem dX6_plan_155 : decode cX6_plan 155 = .ok (.isub, 1) := by decide +kernel
theorem dX6_plan_156 : decode cX6_plan 156 = .ok (.ireturn, 1) := by decide +kernel
theorem dX6_plan_157 : decode cX6_plan 157 = .ok (.aload_n 0, 1) := by decide +kernel
theorem dX6_plan_158 : decode cX6_plan 158 = .ok (.getfield 7, 3) := by decide +kernel
theorem dX6_plan_161 : decode cX6_plan 161 = .ok (.iload_n 3, 1) := by decide +kernel
theorem dX6_plan_162 : decode cX6_plan 162 = .ok (.bipush 10, 2) := by decide +kernel
theorem dX6_plan_164 : decode cX6_plan 164 = .ok (.iadd, 1) := by decide +kernel
theorem dX6_plan_165 : decode cX6_plan 165 = .ok (.iaload, 1) := by decide +kernel
theorem dX6_plan_166 : decode cX6_plan 166 = .ok (.ireturn, 1) := by decide +kernel
theorem dX6_plan_167 : decode cX6_plan 167 = .ok (.bipush (-2), 2) := by decide +kernel
theorem dX6_plan_169 : decode cX6_plan 169 = .ok (.ireturn, 1) := by decide +kernel
theorem dX6_reason_0 : decode cX6_reason 0 = .ok (.iload_n 1, 1) := by decide +kernel
theorem dX6_reason_1 : decode cX6_reason 1 = .ok (.invokestatic 89, 3) := by decide +kernel
theorem dX6_reason_4 : decode cX6_reason 4 = .ok (.ifCond .ne 5, 3) := by decide +kernel
theorem dX6_reason_7 : decode cX6_reason 7 = .ok (.iconst (-1), 1) := by decide +kernel
theorem dX6_reason_8 : decode cX6_reason 8 = .ok (.ireturn, 1) := by decide +kernel
theorem dX6_reason_9 : decode cX6_reason 9 = .ok (.iload_n 1, 1) := by decide +kernel
theorem dX6_reason_10 : decode cX6_reason 10 = .ok (.iload_n 2, 1) := by decide +kernel
theorem dX6_reason_11 : decode cX6_reason 11 = .ok (.invokestatic 93, 3) := by decide +kernel
theorem dX6_reason_14 : decode cX6_reason 14 = .ok (.ifCond .eq 13, 3) := by decide +kernel
theorem dX6_reason_17 : decode cX6_reason 17 = .ok (.aload_n 0, 1) := by decide +kernel
theorem dX6_reason_18 : decode cX6_reason 18 = .ok (.iconst 0, 1) := by decide +kernel
theorem dX6_reason_19 : decode cX6_reason 19 = .ok (.iload_n 1, 1) := by decide +kernel
theorem dX6_reason_20 : decode cX6_reason 20 = .ok (.iload_n 2, 1) := by decide +kernel
theorem dX6_reason_21 : decode cX6_reason 21 = .ok (.invokevirtual 65, 3) := by decide +kernel
theorem dX6_reason_24 : decode cX6_reason 24 = .ok (.goto 5, 3) := by decide +kernel
theorem dX6_reason_27 : decode cX6_reason 27 = .ok (.bipush (-2), 2) := by decide +kernel
theorem dX6_reason_29 : decode cX6_reason 29 = .ok (.ireturn, 1) := by decide +kernel
theorem dX6_wouldAsk_0 : decode cX6_wouldAsk 0 = .ok (.aload_n 0, 1) := by decide +kernel
theorem dX6_wouldAsk_1 : decode cX6_wouldAsk 1 = .ok (.iconst 0, 1) := by decide +kernel
theorem dX6_wouldAsk_2 : decode cX6_wouldAsk 2 = .ok (.bipush 6, 2) := by decide +kernel
theorem dX6_wouldAsk_4 : decode cX6_wouldAsk 4 = .ok (.invokevirtual 25, 3) := by decide +kernel
theorem dX6_wouldAsk_7 : decode cX6_wouldAsk 7 = .ok (.aload_n 0, 1) := by decide +kernel
theorem dX6_wouldAsk_8 : decode cX6_wouldAsk 8 = .ok (.iconst 0, 1) := by decide +kernel
theorem dX6_wouldAsk_9 : decode cX6_wouldAsk 9 = .ok (.iload_n 1, 1) := by decide +kernel
theorem dX6_wouldAsk_10 : decode cX6_wouldAsk 10 = .ok (.aload_n 0, 1) := by decide +kernel
theorem dX6_wouldAsk_11 : decode cX6_wouldAsk 11 = .ok (.iconst 0, 1) := by decide +kernel
theorem dX6_wouldAsk_12 : decode cX6_wouldAsk 12 = .ok (.iload_n 1, 1) := by decide +kernel
theorem dX6_wouldAsk_13 : decode cX6_wouldAsk 13 = .ok (.iload_n 2, 1) := by decide +kernel
theorem dX6_wouldAsk_14 : decode cX6_wouldAsk 14 = .ok (.invokevirtual 69, 3) := by decide +kernel
theorem dX6_wouldAsk_17 : decode cX6_wouldAsk 17 = .ok (.iload_n 2, 1) := by decide +kernel
theorem dX6_wouldAsk_18 : decode cX6_wouldAsk 18 = .ok (.invokevirtual 34, 3) := by decide +kernel
theorem dX6_wouldAsk_21 : decode cX6_wouldAsk 21 = .ok (.istore 4, 2) := by decide +kernel
theorem dX6_wouldAsk_23 : decode cX6_wouldAsk 23 = .ok (.aload_n 0, 1) := by decide +kernel
theorem dX6_wouldAsk_24 : decode cX6_wouldAsk 24 = .ok (.sipush 960, 3) := by decide +kernel
theorem dX6_wouldAsk_27 : decode cX6_wouldAsk 27 = .ok (.iload_n 1, 1) := by decide +kernel
theorem dX6_wouldAsk_28 : decode cX6_wouldAsk 28 = .ok (.iload_n 2, 1) := by decide +kernel
theorem dX6_wouldAsk_29 : decode cX6_wouldAsk 29 = .ok (.invokevirtual 96, 3) := by decide +kernel
theorem dX6_wouldAsk_32 : decode cX6_wouldAsk 32 = .ok (.istore 5, 2) := by decide +kernel
theorem dX6_wouldAsk_34 : decode cX6_wouldAsk 34 = .ok (.iload_n 3, 1) := by decide +kernel
theorem dX6_wouldAsk_35 : decode cX6_wouldAsk 35 = .ok (.ifCond .ne 8, 3) := by decide +kernel
theorem dX6_wouldAsk_38 : decode cX6_wouldAsk 38 = .ok (.iload 5, 2) := by decide +kernel
theorem dX6_wouldAsk_40 : decode cX6_wouldAsk 40 = .ok (.goto 52, 3) := by decide +kernel
theorem dX6_wouldAsk_43 : decode cX6_wouldAsk 43 = .ok (.iload_n 3, 1) := by decide +kernel
theorem dX6_wouldAsk_44 : decode cX6_wouldAsk 44 = .ok (.iconst 1, 1) := by decide +kernel
theorem dX6_wouldAsk_45 : decode cX6_wouldAsk 45 = .ok (.if_icmp .ne 10, 3) := by decide +kernel
theorem dX6_wouldAsk_48 : decode cX6_wouldAsk 48 = .ok (.aload_n 0, 1) := by decide +kernel
theorem dX6_wouldAsk_49 : decode cX6_wouldAsk 49 = .ok (.getfield 72, 3) := by decide +kernel
theorem dX6_wouldAsk_52 : decode cX6_wouldAsk 52 = .ok (.goto 40, 3) := by decide +kernel
theorem dX6_wouldAsk_55 : decode cX6_wouldAsk 55 = .ok (.iload_n 3, 1) := by decide +kernel
theorem dX6_wouldAsk_56 : decode cX6_wouldAsk 56 = .ok (.iconst 2, 1) := by decide +kernel
theorem dX6_wouldAsk_57 : decode cX6_wouldAsk 57 = .ok (.if_icmp .ne 18, 3) := by decide +kernel
theorem dX6_wouldAsk_60 : decode cX6_wouldAsk 60 = .ok (.aload_n 0, 1) := by decide +kernel
theorem dX6_wouldAsk_61 : decode cX6_wouldAsk 61 = .ok (.getfield 75, 3) := by decide +kernel
theorem dX6_wouldAsk_64 : decode cX6_wouldAsk 64 = .ok (.ifCond .eq 7, 3) := by decide +kernel
theorem dX6_wouldAsk_67 : decode cX6_wouldAsk 67 = .ok (.iconst 1, 1) := by decide +kernel
theorem dX6_wouldAsk_68 : decode cX6_wouldAsk 68 = .ok (.goto 24, 3) := by decide +kernel
theorem dX6_wouldAsk_71 : decode cX6_wouldAsk 71 = .ok (.iconst 0, 1) := by decide +kernel
theorem dX6_wouldAsk_72 : decode cX6_wouldAsk 72 = .ok (.goto 20, 3) := by decide +kernel
theorem dX6_wouldAsk_75 : decode cX6_wouldAsk 75 = .ok (.iload_n 3, 1) := by decide +kernel
theorem dX6_wouldAsk_76 : decode cX6_wouldAsk 76 = .ok (.iconst 3, 1) := by decide +kernel
theorem dX6_wouldAsk_77 : decode cX6_wouldAsk 77 = .ok (.if_icmp .ne 10, 3) := by decide +kernel
theorem dX6_wouldAsk_80 : decode cX6_wouldAsk 80 = .ok (.aload_n 0, 1) := by decide +kernel
theorem dX6_wouldAsk_81 : decode cX6_wouldAsk 81 = .ok (.getfield 55, 3) := by decide +kernel
theorem dX6_wouldAsk_84 : decode cX6_wouldAsk 84 = .ok (.goto 8, 3) := by decide +kernel
theorem dX6_wouldAsk_87 : decode cX6_wouldAsk 87 = .ok (.iload 5, 2) := by decide +kernel
theorem dX6_wouldAsk_89 : decode cX6_wouldAsk 89 = .ok (.iload 4, 2) := by decide +kernel
theorem dX6_wouldAsk_91 : decode cX6_wouldAsk 91 = .ok (.isub, 1) := by decide +kernel
theorem dX6_wouldAsk_92 : decode cX6_wouldAsk 92 = .ok (.ireturn, 1) := by decide +kernel
theorem dX6_ifAsked_0 : decode cX6_ifAsked 0 = .ok (.iload_n 1, 1) := by decide +kernel
theorem dX6_ifAsked_1 : decode cX6_ifAsked 1 = .ok (.invokestatic 89, 3) := by decide +kernel
theorem dX6_ifAsked_4 : decode cX6_ifAsked 4 = .ok (.ifCond .ne 5, 3) := by decide +kernel
theorem dX6_ifAsked_7 : decode cX6_ifAsked 7 = .ok (.iconst (-1), 1) := by decide +kernel
theorem dX6_ifAsked_8 : decode cX6_ifAsked 8 = .ok (.ireturn, 1) := by decide +kernel
theorem dX6_ifAsked_9 : decode cX6_ifAsked 9 = .ok (.iload_n 1, 1) := by decide +kernel
theorem dX6_ifAsked_10 : decode cX6_ifAsked 10 = .ok (.iload_n 2, 1) := by decide +kernel
theorem dX6_ifAsked_11 : decode cX6_ifAsked 11 = .ok (.invokestatic 93, 3) := by decide +kernel
theorem dX6_ifAsked_14 : decode cX6_ifAsked 14 = .ok (.ifCond .eq 22, 3) := by decide +kernel
theorem dX6_ifAsked_17 : decode cX6_ifAsked 17 = .ok (.iload_n 3, 1) := by decide +kernel
theorem dX6_ifAsked_18 : decode cX6_ifAsked 18 = .ok (.iconst 0, 1) := by decide +kernel
theorem dX6_ifAsked_19 : decode cX6_ifAsked 19 = .ok (.iconst 4, 1) := by decide +kernel
theorem dX6_ifAsked_20 : decode cX6_ifAsked 20 = .ok (.invokestatic 17, 3) := by decide +kernel
theorem dX6_ifAsked_23 : decode cX6_ifAsked 23 = .ok (.ifCond .eq 13, 3) := by decide +kernel
theorem dX6_ifAsked_26 : decode cX6_ifAsked 26 = .ok (.aload_n 0, 1) := by decide +kernel
theorem dX6_ifAsked_27 : decode cX6_ifAsked 27 = .ok (.iload_n 1, 1) := by decide +kernel
theorem dX6_ifAsked_28 : decode cX6_ifAsked 28 = .ok (.iload_n 2, 1) := by decide +kernel
theorem dX6_ifAsked_29 : decode cX6_ifAsked 29 = .ok (.iload_n 3, 1) := by decide +kernel
theorem dX6_ifAsked_30 : decode cX6_ifAsked 30 = .ok (.invokevirtual 156, 3) := by decide +kernel
theorem dX6_ifAsked_33 : decode cX6_ifAsked 33 = .ok (.goto 5, 3) := by decide +kernel
theorem dX6_ifAsked_36 : decode cX6_ifAsked 36 = .ok (.bipush (-2), 2) := by decide +kernel
theorem dX6_ifAsked_38 : decode cX6_ifAsked 38 = .ok (.ireturn, 1) := by decide +kernel
theorem dX6_reach_0 : decode cX6_reach 0 = .ok (.iload_n 1, 1) := by decide +kernel
theorem dX6_reach_1 : decode cX6_reach 1 = .ok (.invokestatic 89, 3) := by decide +kernel
theorem dX6_reach_4 : decode cX6_reach 4 = .ok (.ifCond .ne 5, 3) := by decide +kernel
theorem dX6_reach_7 : decode cX6_reach 7 = .ok (.iconst (-1), 1) := by decide +kernel
theorem dX6_reach_8 : decode cX6_reach 8 = .ok (.ireturn, 1) := by decide +kernel
theorem dX6_reach_9 : decode cX6_reach 9 = .ok (.iload_n 2, 1) := by decide +kernel
theorem dX6_reach_10 : decode cX6_reach 10 = .ok (.iconst 0, 1) := by decide +kernel
theorem dX6_reach_11 : decode cX6_reach 11 = .ok (.iconst 2, 1) := by decide +kernel
theorem dX6_reach_12 : decode cX6_reach 12 = .ok (.invokestatic 17, 3) := by decide +kernel
theorem dX6_reach_15 : decode cX6_reach 15 = .ok (.ifCond .ne 6, 3) := by decide +kernel
theorem dX6_reach_18 : decode cX6_reach 18 = .ok (.bipush (-2), 2) := by decide +kernel
theorem dX6_reach_20 : decode cX6_reach 20 = .ok (.ireturn, 1) := by decide +kernel
theorem dX6_reach_21 : decode cX6_reach 21 = .ok (.iconst 0, 1) := by decide +kernel
theorem dX6_reach_22 : decode cX6_reach 22 = .ok (.istore_n 3, 1) := by decide +kernel
theorem dX6_reach_23 : decode cX6_reach 23 = .ok (.iload_n 1, 1) := by decide +kernel
theorem dX6_reach_24 : decode cX6_reach 24 = .ok (.iconst 3, 1) := by decide +kernel
theorem dX6_reach_25 : decode cX6_reach 25 = .ok (.irem, 1) := by decide +kernel
theorem dX6_reach_26 : decode cX6_reach 26 = .ok (.ifCond .ne 7, 3) := by decide +kernel
theorem dX6_reach_29 : decode cX6_reach 29 = .ok (.iconst 0, 1) := by decide +kernel
theorem dX6_reach_30 : decode cX6_reach 30 = .ok (.goto 4, 3) := by decide +kernel
theorem dX6_reach_33 : decode cX6_reach 33 = .ok (.iconst 1, 1) := by decide +kernel
theorem dX6_reach_34 : decode cX6_reach 34 = .ok (.istore 4, 2) := by decide +kernel
theorem dX6_reach_36 : decode cX6_reach 36 = .ok (.iload 4, 2) := by decide +kernel
theorem dX6_reach_38 : decode cX6_reach 38 = .ok (.sipush 200, 3) := by decide +kernel
theorem dX6_reach_41 : decode cX6_reach 41 = .ok (.if_icmp .gt 29, 3) := by decide +kernel
theorem dX6_reach_44 : decode cX6_reach 44 = .ok (.iload_n 3, 1) := by decide +kernel
theorem dX6_reach_45 : decode cX6_reach 45 = .ok (.aload_n 0, 1) := by decide +kernel
theorem dX6_reach_46 : decode cX6_reach 46 = .ok (.iconst 0, 1) := by decide +kernel
theorem dX6_reach_47 : decode cX6_reach 47 = .ok (.iload_n 1, 1) := by decide +kernel
theorem dX6_reach_48 : decode cX6_reach 48 = .ok (.iload 4, 2) := by decide +kernel
theorem dX6_reach_50 : decode cX6_reach 50 = .ok (.invokevirtual 69, 3) := by decide +kernel
theorem dX6_reach_53 : decode cX6_reach 53 = .ok (.iload_n 2, 1) := by decide +kernel
theorem dX6_reach_54 : decode cX6_reach 54 = .ok (.if_icmp .ne 7, 3) := by decide +kernel
theorem dX6_reach_57 : decode cX6_reach 57 = .ok (.iconst 1, 1) := by decide +kernel
theorem dX6_reach_58 : decode cX6_reach 58 = .ok (.goto 4, 3) := by decide +kernel
theorem dX6_reach_61 : decode cX6_reach 61 = .ok (.iconst 0, 1) := by decide +kernel
theorem dX6_reach_62 : decode cX6_reach 62 = .ok (.iadd, 1) := by decide +kernel
theorem dX6_reach_63 : decode cX6_reach 63 = .ok (.istore_n 3, 1) := by decide +kernel
theorem dX6_reach_64 : decode cX6_reach 64 = .ok (.iinc 4 1, 3) := by decide +kernel
theorem dX6_reach_67 : decode cX6_reach 67 = .ok (.goto (-31), 3) := by decide +kernel
theorem dX6_reach_70 : decode cX6_reach 70 = .ok (.iload_n 3, 1) := by decide +kernel
theorem dX6_reach_71 : decode cX6_reach 71 = .ok (.ireturn, 1) := by decide +kernel
theorem dX6_oldest_0 : decode cX6_oldest 0 = .ok (.aload_n 0, 1) := by decide +kernel
theorem dX6_oldest_1 : decode cX6_oldest 1 = .ok (.iconst 0, 1) := by decide +kernel
theorem dX6_oldest_2 : decode cX6_oldest 2 = .ok (.invokevirtual 52, 3) := by decide +kernel
theorem dX6_oldest_5 : decode cX6_oldest 5 = .ok (.ireturn, 1) := by decide +kernel
theorem dX6_keptFor_0 : decode cX6_keptFor 0 = .ok (.aload_n 0, 1) := by decide +kernel
theorem dX6_keptFor_1 : decode cX6_keptFor 1 = .ok (.getfield 7, 3) := by decide +kernel
theorem dX6_keptFor_4 : decode cX6_keptFor 4 = .ok (.iconst 0, 1) := by decide +kernel
theorem dX6_keptFor_5 : decode cX6_keptFor 5 = .ok (.iconst 3, 1) := by decide +kernel
theorem dX6_keptFor_6 : decode cX6_keptFor 6 = .ok (.iload_n 1, 1) := by decide +kernel
theorem dX6_keptFor_7 : decode cX6_keptFor 7 = .ok (.imul, 1) := by decide +kernel
theorem dX6_keptFor_8 : decode cX6_keptFor 8 = .ok (.invokestatic 38, 3) := by decide +kernel
theorem dX6_keptFor_11 : decode cX6_keptFor 11 = .ok (.iaload, 1) := by decide +kernel
theorem dX6_keptFor_12 : decode cX6_keptFor 12 = .ok (.aload_n 0, 1) := by decide +kernel
theorem dX6_keptFor_13 : decode cX6_keptFor 13 = .ok (.getfield 7, 3) := by decide +kernel
theorem dX6_keptFor_16 : decode cX6_keptFor 16 = .ok (.iconst 0, 1) := by decide +kernel
theorem dX6_keptFor_17 : decode cX6_keptFor 17 = .ok (.iconst 3, 1) := by decide +kernel
theorem dX6_keptFor_18 : decode cX6_keptFor 18 = .ok (.iload_n 1, 1) := by decide +kernel
theorem dX6_keptFor_19 : decode cX6_keptFor 19 = .ok (.imul, 1) := by decide +kernel
theorem dX6_keptFor_20 : decode cX6_keptFor 20 = .ok (.iconst 1, 1) := by decide +kernel
theorem dX6_keptFor_21 : decode cX6_keptFor 21 = .ok (.iadd, 1) := by decide +kernel
theorem dX6_keptFor_22 : decode cX6_keptFor 22 = .ok (.invokestatic 38, 3) := by decide +kernel
theorem dX6_keptFor_25 : decode cX6_keptFor 25 = .ok (.iaload, 1) := by decide +kernel
theorem dX6_keptFor_26 : decode cX6_keptFor 26 = .ok (.iadd, 1) := by decide +kernel
theorem dX6_keptFor_27 : decode cX6_keptFor 27 = .ok (.aload_n 0, 1) := by decide +kernel
theorem dX6_keptFor_28 : decode cX6_keptFor 28 = .ok (.getfield 7, 3) := by decide +kernel
theorem dX6_keptFor_31 : decode cX6_keptFor 31 = .ok (.iconst 0, 1) := by decide +kernel
theorem dX6_keptFor_32 : decode cX6_keptFor 32 = .ok (.iconst 3, 1) := by decide +kernel
theorem dX6_keptFor_33 : decode cX6_keptFor 33 = .ok (.iload_n 1, 1) := by decide +kernel
theorem dX6_keptFor_34 : decode cX6_keptFor 34 = .ok (.imul, 1) := by decide +kernel
theorem dX6_keptFor_35 : decode cX6_keptFor 35 = .ok (.iconst 2, 1) := by decide +kernel
theorem dX6_keptFor_36 : decode cX6_keptFor 36 = .ok (.iadd, 1) := by decide +kernel
theorem dX6_keptFor_37 : decode cX6_keptFor 37 = .ok (.invokestatic 38, 3) := by decide +kernel
theorem dX6_keptFor_40 : decode cX6_keptFor 40 = .ok (.iaload, 1) := by decide +kernel
theorem dX6_keptFor_41 : decode cX6_keptFor 41 = .ok (.iadd, 1) := by decide +kernel
theorem dX6_keptFor_42 : decode cX6_keptFor 42 = .ok (.ireturn, 1) := by decide +kernel
theorem dX6_tableOf_0 : decode cX6_tableOf 0 = .ok (.iload_n 1, 1) := by decide +kernel
theorem dX6_tableOf_1 : decode cX6_tableOf 1 = .ok (.iconst 0, 1) := by decide +kernel
theorem dX6_tableOf_2 : decode cX6_tableOf 2 = .ok (.iconst 3, 1) := by decide +kernel
theorem dX6_tableOf_3 : decode cX6_tableOf 3 = .ok (.invokestatic 17, 3) := by decide +kernel
theorem dX6_tableOf_6 : decode cX6_tableOf 6 = .ok (.ifCond .ne 5, 3) := by decide +kernel
theorem dX6_tableOf_9 : decode cX6_tableOf 9 = .ok (.iconst (-1), 1) := by decide +kernel
theorem dX6_tableOf_10 : decode cX6_tableOf 10 = .ok (.ireturn, 1) := by decide +kernel
theorem dX6_tableOf_11 : decode cX6_tableOf 11 = .ok (.iload_n 2, 1) := by decide +kernel
theorem dX6_tableOf_12 : decode cX6_tableOf 12 = .ok (.tableswitch 80 0 4 #[36, 43, 52, 58, 69], 36) := by decide +kernel
theorem dX6_tableOf_48 : decode cX6_tableOf 48 = .ok (.aload_n 0, 1) := by decide +kernel
theorem dX6_tableOf_49 : decode cX6_tableOf 49 = .ok (.getfield 7, 3) := by decide +kernel
theorem dX6_tableOf_52 : decode cX6_tableOf 52 = .ok (.iload_n 1, 1) := by decide +kernel
theorem dX6_tableOf_53 : decode cX6_tableOf 53 = .ok (.iaload, 1) := by decide +kernel
theorem dX6_tableOf_54 : decode cX6_tableOf 54 = .ok (.ireturn, 1) := by decide +kernel
theorem dX6_tableOf_55 : decode cX6_tableOf 55 = .ok (.aload_n 0, 1) := by decide +kernel
theorem dX6_tableOf_56 : decode cX6_tableOf 56 = .ok (.getfield 7, 3) := by decide +kernel
theorem dX6_tableOf_59 : decode cX6_tableOf 59 = .ok (.iconst 4, 1) := by decide +kernel
theorem dX6_tableOf_60 : decode cX6_tableOf 60 = .ok (.iload_n 1, 1) := by decide +kernel
theorem dX6_tableOf_61 : decode cX6_tableOf 61 = .ok (.iadd, 1) := by decide +kernel
theorem dX6_tableOf_62 : decode cX6_tableOf 62 = .ok (.iaload, 1) := by decide +kernel
theorem dX6_tableOf_63 : decode cX6_tableOf 63 = .ok (.ireturn, 1) := by decide +kernel
theorem dX6_tableOf_64 : decode cX6_tableOf 64 = .ok (.aload_n 0, 1) := by decide +kernel
theorem dX6_tableOf_65 : decode cX6_tableOf 65 = .ok (.iload_n 1, 1) := by decide +kernel
theorem dX6_tableOf_66 : decode cX6_tableOf 66 = .ok (.invokevirtual 159, 3) := by decide +kernel
theorem dX6_tableOf_69 : decode cX6_tableOf 69 = .ok (.ireturn, 1) := by decide +kernel
theorem dX6_tableOf_70 : decode cX6_tableOf 70 = .ok (.aload_n 0, 1) := by decide +kernel
theorem dX6_tableOf_71 : decode cX6_tableOf 71 = .ok (.getfield 7, 3) := by decide +kernel
theorem dX6_tableOf_74 : decode cX6_tableOf 74 = .ok (.sipush 152, 3) := by decide +kernel
theorem dX6_tableOf_77 : decode cX6_tableOf 77 = .ok (.iload_n 1, 1) := by decide +kernel
theorem dX6_tableOf_78 : decode cX6_tableOf 78 = .ok (.iadd, 1) := by decide +kernel
theorem dX6_tableOf_79 : decode cX6_tableOf 79 = .ok (.iaload, 1) := by decide +kernel
theorem dX6_tableOf_80 : decode cX6_tableOf 80 = .ok (.ireturn, 1) := by decide +kernel
theorem dX6_tableOf_81 : decode cX6_tableOf 81 = .ok (.aload_n 0, 1) := by decide +kernel
theorem dX6_tableOf_82 : decode cX6_tableOf 82 = .ok (.getfield 7, 3) := by decide +kernel
theorem dX6_tableOf_85 : decode cX6_tableOf 85 = .ok (.sipush 156, 3) := by decide +kernel
theorem dX6_tableOf_88 : decode cX6_tableOf 88 = .ok (.iload_n 1, 1) := by decide +kernel
theorem dX6_tableOf_89 : decode cX6_tableOf 89 = .ok (.iadd, 1) := by decide +kernel
theorem dX6_tableOf_90 : decode cX6_tableOf 90 = .ok (.iaload, 1) := by decide +kernel
theorem dX6_tableOf_91 : decode cX6_tableOf 91 = .ok (.ireturn, 1) := by decide +kernel
theorem dX6_tableOf_92 : decode cX6_tableOf 92 = .ok (.bipush (-2), 2) := by decide +kernel
theorem dX6_tableOf_94 : decode cX6_tableOf 94 = .ok (.ireturn, 1) := by decide +kernel
theorem dX6_stale_0 : decode cX6_stale 0 = .ok (.iconst 0, 1) := by decide +kernel
theorem dX6_stale_1 : decode cX6_stale 1 = .ok (.istore_n 1, 1) := by decide +kernel
theorem dX6_stale_2 : decode cX6_stale 2 = .ok (.iconst 0, 1) := by decide +kernel
theorem dX6_stale_3 : decode cX6_stale 3 = .ok (.istore_n 2, 1) := by decide +kernel
theorem dX6_stale_4 : decode cX6_stale 4 = .ok (.iload_n 2, 1) := by decide +kernel
theorem dX6_stale_5 : decode cX6_stale 5 = .ok (.bipush 12, 2) := by decide +kernel
theorem dX6_stale_7 : decode cX6_stale 7 = .ok (.if_icmp .ge 43, 3) := by decide +kernel
theorem dX6_stale_10 : decode cX6_stale 10 = .ok (.iload_n 1, 1) := by decide +kernel
theorem dX6_stale_11 : decode cX6_stale 11 = .ok (.aload_n 0, 1) := by decide +kernel
theorem dX6_stale_12 : decode cX6_stale 12 = .ok (.iload_n 2, 1) := by decide +kernel
theorem dX6_stale_13 : decode cX6_stale 13 = .ok (.invokevirtual 140, 3) := by decide +kernel
theorem dX6_stale_16 : decode cX6_stale 16 = .ok (.ifCond .eq 25, 3) := by decide +kernel
theorem dX6_stale_19 : decode cX6_stale 19 = .ok (.aload_n 0, 1) := by decide +kernel
theorem dX6_stale_20 : decode cX6_stale 20 = .ok (.iconst 0, 1) := by decide +kernel
theorem dX6_stale_21 : decode cX6_stale 21 = .ok (.iload_n 2, 1) := by decide +kernel
theorem dX6_stale_22 : decode cX6_stale 22 = .ok (.invokevirtual 45, 3) := by decide +kernel
theorem dX6_stale_25 : decode cX6_stale 25 = .ok (.ifCond .ne 12, 3) := by decide +kernel
theorem dX6_stale_28 : decode cX6_stale 28 = .ok (.aload_n 0, 1) := by decide +kernel
theorem dX6_stale_29 : decode cX6_stale 29 = .ok (.iconst 0, 1) := by decide +kernel
theorem dX6_stale_30 : decode cX6_stale 30 = .ok (.iload_n 2, 1) := by decide +kernel
theorem dX6_stale_31 : decode cX6_stale 31 = .ok (.invokevirtual 49, 3) := by decide +kernel
theorem dX6_stale_34 : decode cX6_stale 34 = .ok (.ifCond .eq 7, 3) := by decide +kernel
theorem dX6_stale_37 : decode cX6_stale 37 = .ok (.iconst 1, 1) := by decide +kernel
theorem dX6_stale_38 : decode cX6_stale 38 = .ok (.goto 4, 3) := by decide +kernel
theorem dX6_stale_41 : decode cX6_stale 41 = .ok (.iconst 0, 1) := by decide +kernel
theorem dX6_stale_42 : decode cX6_stale 42 = .ok (.iadd, 1) := by decide +kernel
theorem dX6_stale_43 : decode cX6_stale 43 = .ok (.istore_n 1, 1) := by decide +kernel
theorem dX6_stale_44 : decode cX6_stale 44 = .ok (.iinc 2 1, 3) := by decide +kernel
theorem dX6_stale_47 : decode cX6_stale 47 = .ok (.goto (-43), 3) := by decide +kernel
theorem dX6_stale_50 : decode cX6_stale 50 = .ok (.iload_n 1, 1) := by decide +kernel
theorem dX6_stale_51 : decode cX6_stale 51 = .ok (.ireturn, 1) := by decide +kernel
theorem dX6_count_0 : decode cX6_count 0 = .ok (.iload_n 1, 1) := by decide +kernel
theorem dX6_count_1 : decode cX6_count 1 = .ok (.iconst 3, 1) := by decide +kernel
theorem dX6_count_2 : decode cX6_count 2 = .ok (.bipush 9, 2) := by decide +kernel
theorem dX6_count_4 : decode cX6_count 4 = .ok (.invokestatic 17, 3) := by decide +kernel
theorem dX6_count_7 : decode cX6_count 7 = .ok (.ifCond .eq 16, 3) := by decide +kernel
theorem dX6_count_10 : decode cX6_count 10 = .ok (.aload_n 0, 1) := by decide +kernel
theorem dX6_count_11 : decode cX6_count 11 = .ok (.getfield 7, 3) := by decide +kernel
theorem dX6_count_14 : decode cX6_count 14 = .ok (.sipush 145, 3) := by decide +kernel
theorem dX6_count_17 : decode cX6_count 17 = .ok (.iload_n 1, 1) := by decide +kernel
theorem dX6_count_18 : decode cX6_count 18 = .ok (.iadd, 1) := by decide +kernel
theorem dX6_count_19 : decode cX6_count 19 = .ok (.iconst 3, 1) := by decide +kernel
theorem dX6_count_20 : decode cX6_count 20 = .ok (.isub, 1) := by decide +kernel
theorem dX6_count_21 : decode cX6_count 21 = .ok (.iaload, 1) := by decide +kernel
theorem dX6_count_22 : decode cX6_count 22 = .ok (.ireturn, 1) := by decide +kernel
theorem dX6_count_23 : decode cX6_count 23 = .ok (.iload_n 1, 1) := by decide +kernel
theorem dX6_count_24 : decode cX6_count 24 = .ok (.bipush 10, 2) := by decide +kernel
theorem dX6_count_26 : decode cX6_count 26 = .ok (.bipush 14, 2) := by decide +kernel
theorem dX6_count_28 : decode cX6_count 28 = .ok (.invokestatic 17, 3) := by decide +kernel
theorem dX6_count_31 : decode cX6_count 31 = .ok (.ifCond .eq 16, 3) := by decide +kernel
theorem dX6_count_34 : decode cX6_count 34 = .ok (.aload_n 0, 1) := by decide +kernel
theorem dX6_count_35 : decode cX6_count 35 = .ok (.getfield 7, 3) := by decide +kernel
theorem dX6_count_38 : decode cX6_count 38 = .ok (.bipush 8, 2) := by decide +kernel
theorem dX6_count_40 : decode cX6_count 40 = .ok (.iload_n 1, 1) := by decide +kernel
theorem dX6_count_41 : decode cX6_count 41 = .ok (.iadd, 1) := by decide +kernel
theorem dX6_count_42 : decode cX6_count 42 = .ok (.bipush 10, 2) := by decide +kernel
theorem dX6_count_44 : decode cX6_count 44 = .ok (.isub, 1) := by decide +kernel
theorem dX6_count_45 : decode cX6_count 45 = .ok (.iaload, 1) := by decide +kernel
theorem dX6_count_46 : decode cX6_count 46 = .ok (.ireturn, 1) := by decide +kernel
theorem dX6_count_47 : decode cX6_count 47 = .ok (.iload_n 1, 1) := by decide +kernel
theorem dX6_count_48 : decode cX6_count 48 = .ok (.lookupswitch 78 #[(0, 52), (1, 58), (2, 63), (15, 68), (16, 73)], 52) := by decide +kernel
theorem dX6_count_100 : decode cX6_count 100 = .ok (.aload_n 0, 1) := by decide +kernel
theorem dX6_count_101 : decode cX6_count 101 = .ok (.iconst 0, 1) := by decide +kernel
theorem dX6_count_102 : decode cX6_count 102 = .ok (.invokevirtual 58, 3) := by decide +kernel
theorem dX6_count_105 : decode cX6_count 105 = .ok (.ireturn, 1) := by decide +kernel
theorem dX6_count_106 : decode cX6_count 106 = .ok (.aload_n 0, 1) := by decide +kernel
theorem dX6_count_107 : decode cX6_count 107 = .ok (.invokevirtual 143, 3) := by decide +kernel
theorem dX6_count_110 : decode cX6_count 110 = .ok (.ireturn, 1) := by decide +kernel
theorem dX6_count_111 : decode cX6_count 111 = .ok (.aload_n 0, 1) := by decide +kernel
theorem dX6_count_112 : decode cX6_count 112 = .ok (.invokevirtual 162, 3) := by decide +kernel
theorem dX6_count_115 : decode cX6_count 115 = .ok (.ireturn, 1) := by decide +kernel
theorem dX6_count_116 : decode cX6_count 116 = .ok (.aload_n 0, 1) := by decide +kernel
theorem dX6_count_117 : decode cX6_count 117 = .ok (.getfield 21, 3) := by decide +kernel
theorem dX6_count_120 : decode cX6_count 120 = .ok (.ireturn, 1) := by decide +kernel
theorem dX6_count_121 : decode cX6_count 121 = .ok (.aload_n 0, 1) := by decide +kernel
theorem dX6_count_122 : decode cX6_count 122 = .ok (.getfield 102, 3) := by decide +kernel
theorem dX6_count_125 : decode cX6_count 125 = .ok (.ireturn, 1) := by decide +kernel
theorem dX6_count_126 : decode cX6_count 126 = .ok (.bipush (-2), 2) := by decide +kernel
theorem dX6_count_128 : decode cX6_count 128 = .ok (.ireturn, 1) := by decide +kernel
theorem dL_law_0 : decode cL_law 0 = .ok (.new 7, 3) := by decide +kernel
theorem dL_law_3 : decode cL_law 3 = .ok (.dup, 1) := by decide +kernel
theorem dL_law_4 : decode cL_law 4 = .ok (.invokespecial 9, 3) := by decide +kernel
theorem dL_law_7 : decode cL_law 7 = .ok (.astore_n 1, 1) := by decide +kernel
theorem dL_law_8 : decode cL_law 8 = .ok (.new 10, 3) := by decide +kernel
theorem dL_law_11 : decode cL_law 11 = .ok (.dup, 1) := by decide +kernel
theorem dL_law_12 : decode cL_law 12 = .ok (.invokespecial 12, 3) := by decide +kernel
theorem dL_law_15 : decode cL_law 15 = .ok (.astore_n 2, 1) := by decide +kernel
theorem dL_law_16 : decode cL_law 16 = .ok (.iconst 0, 1) := by decide +kernel
theorem dL_law_17 : decode cL_law 17 = .ok (.istore_n 3, 1) := by decide +kernel
theorem dL_law_18 : decode cL_law 18 = .ok (.iload_n 3, 1) := by decide +kernel
theorem dL_law_19 : decode cL_law 19 = .ok (.aload_n 0, 1) := by decide +kernel
theorem dL_law_20 : decode cL_law 20 = .ok (.arraylength, 1) := by decide +kernel
theorem dL_law_21 : decode cL_law 21 = .ok (.bipush 6, 2) := by decide +kernel
theorem dL_law_23 : decode cL_law 23 = .ok (.isub, 1) := by decide +kernel
theorem dL_law_24 : decode cL_law 24 = .ok (.if_icmp .gt 751, 3) := by decide +kernel
theorem dL_law_27 : decode cL_law 27 = .ok (.aload_n 0, 1) := by decide +kernel
theorem dL_law_28 : decode cL_law 28 = .ok (.iload_n 3, 1) := by decide +kernel
theorem dL_law_29 : decode cL_law 29 = .ok (.iaload, 1) := by decide +kernel
theorem dL_law_30 : decode cL_law 30 = .ok (.bipush 31, 2) := by decide +kernel
theorem dL_law_32 : decode cL_law 32 = .ok (.iand, 1) := by decide +kernel
theorem dL_law_33 : decode cL_law 33 = .ok (.tableswitch 736 0 20 #[99, 158, 191, 204, 253, 276, 339, 372, 397, 410, 423, 436, 449, 492, 525, 558, 591, 634, 667, 680, 713], 99) := by decide +kernel
theorem dL_law_132 : decode cL_law 132 = .ok (.aload_n 1, 1) := by decide +kernel
theorem dL_law_133 : decode cL_law 133 = .ok (.aload_n 0, 1) := by decide +kernel
theorem dL_law_134 : decode cL_law 134 = .ok (.iload_n 3, 1) := by decide +kernel
theorem dL_law_135 : decode cL_law 135 = .ok (.iconst 1, 1) := by decide +kernel
theorem dL_law_136 : decode cL_law 136 = .ok (.iadd, 1) := by decide +kernel
theorem dL_law_137 : decode cL_law 137 = .ok (.iaload, 1) := by decide +kernel
theorem dL_law_138 : decode cL_law 138 = .ok (.aload_n 0, 1) := by decide +kernel
theorem dL_law_139 : decode cL_law 139 = .ok (.iload_n 3, 1) := by decide +kernel
theorem dL_law_140 : decode cL_law 140 = .ok (.iconst 2, 1) := by decide +kernel
theorem dL_law_141 : decode cL_law 141 = .ok (.iadd, 1) := by decide +kernel
theorem dL_law_142 : decode cL_law 142 = .ok (.iaload, 1) := by decide +kernel
theorem dL_law_143 : decode cL_law 143 = .ok (.ifCond .eq 7, 3) := by decide +kernel
theorem dL_law_146 : decode cL_law 146 = .ok (.iconst 1, 1) := by decide +kernel
theorem dL_law_147 : decode cL_law 147 = .ok (.goto 4, 3) := by decide +kernel
theorem dL_law_150 : decode cL_law 150 = .ok (.iconst 0, 1) := by decide +kernel
theorem dL_law_151 : decode cL_law 151 = .ok (.aload_n 0, 1) := by decide +kernel
theorem dL_law_152 : decode cL_law 152 = .ok (.iload_n 3, 1) := by decide +kernel
theorem dL_law_153 : decode cL_law 153 = .ok (.iconst 3, 1) := by decide +kernel
theorem dL_law_154 : decode cL_law 154 = .ok (.iadd, 1) := by decide +kernel
theorem dL_law_155 : decode cL_law 155 = .ok (.iaload, 1) := by decide +kernel
theorem dL_law_156 : decode cL_law 156 = .ok (.invokevirtual 13, 3) := by decide +kernel
theorem dL_law_159 : decode cL_law 159 = .ok (.aload_n 2, 1) := by decide +kernel
theorem dL_law_160 : decode cL_law 160 = .ok (.aload_n 0, 1) := by decide +kernel
theorem dL_law_161 : decode cL_law 161 = .ok (.iload_n 3, 1) := by decide +kernel
theorem dL_law_162 : decode cL_law 162 = .ok (.iconst 1, 1) := by decide +kernel
theorem dL_law_163 : decode cL_law 163 = .ok (.iadd, 1) := by decide +kernel
theorem dL_law_164 : decode cL_law 164 = .ok (.iaload, 1) := by decide +kernel
theorem dL_law_165 : decode cL_law 165 = .ok (.aload_n 0, 1) := by decide +kernel
theorem dL_law_166 : decode cL_law 166 = .ok (.iload_n 3, 1) := by decide +kernel
theorem dL_law_167 : decode cL_law 167 = .ok (.iconst 2, 1) := by decide +kernel
theorem dL_law_168 : decode cL_law 168 = .ok (.iadd, 1) := by decide +kernel
theorem dL_law_169 : decode cL_law 169 = .ok (.iaload, 1) := by decide +kernel
theorem dL_law_170 : decode cL_law 170 = .ok (.ifCond .eq 7, 3) := by decide +kernel
theorem dL_law_173 : decode cL_law 173 = .ok (.iconst 1, 1) := by decide +kernel
theorem dL_law_174 : decode cL_law 174 = .ok (.goto 4, 3) := by decide +kernel
theorem dL_law_177 : decode cL_law 177 = .ok (.iconst 0, 1) := by decide +kernel
theorem dL_law_178 : decode cL_law 178 = .ok (.aload_n 0, 1) := by decide +kernel
theorem dL_law_179 : decode cL_law 179 = .ok (.iload_n 3, 1) := by decide +kernel
theorem dL_law_180 : decode cL_law 180 = .ok (.iconst 3, 1) := by decide +kernel
theorem dL_law_181 : decode cL_law 181 = .ok (.iadd, 1) := by decide +kernel
theorem dL_law_182 : decode cL_law 182 = .ok (.iaload, 1) := by decide +kernel
theorem dL_law_183 : decode cL_law 183 = .ok (.invokevirtual 17, 3) := by decide +kernel
theorem dL_law_186 : decode cL_law 186 = .ok (.if_icmp .eq 583, 3) := by decide +kernel
theorem dL_law_189 : decode cL_law 189 = .ok (.iconst 0, 1) := by decide +kernel
theorem dL_law_190 : decode cL_law 190 = .ok (.ireturn, 1) := by decide +kernel
theorem dL_law_191 : decode cL_law 191 = .ok (.aload_n 1, 1) := by decide +kernel
theorem dL_law_192 : decode cL_law 192 = .ok (.aload_n 0, 1) := by decide +kernel
theorem dL_law_193 : decode cL_law 193 = .ok (.iload_n 3, 1) := by decide +kernel
theorem dL_law_194 : decode cL_law 194 = .ok (.iconst 1, 1) := by decide +kernel
theorem dL_law_195 : decode cL_law 195 = .ok (.iadd, 1) := by decide +kernel
theorem dL_law_196 : decode cL_law 196 = .ok (.iaload, 1) := by decide +kernel
theorem dL_law_197 : decode cL_law 197 = .ok (.aload_n 0, 1) := by decide +kernel
theorem dL_law_198 : decode cL_law 198 = .ok (.iload_n 3, 1) := by decide +kernel
theorem dL_law_199 : decode cL_law 199 = .ok (.iconst 2, 1) := by decide +kernel
theorem dL_law_200 : decode cL_law 200 = .ok (.iadd, 1) := by decide +kernel
theorem dL_law_201 : decode cL_law 201 = .ok (.iaload, 1) := by decide +kernel
theorem dL_law_202 : decode cL_law 202 = .ok (.invokevirtual 18, 3) := by decide +kernel
theorem dL_law_205 : decode cL_law 205 = .ok (.aload_n 2, 1) := by decide +kernel
theorem dL_law_206 : decode cL_law 206 = .ok (.aload_n 0, 1) := by decide +kernel
theorem dL_law_207 : decode cL_law 207 = .ok (.iload_n 3, 1) := by decide +kernel
theorem dL_law_208 : decode cL_law 208 = .ok (.iconst 1, 1) := by decide +kernel
theorem dL_law_209 : decode cL_law 209 = .ok (.iadd, 1) := by decide +kernel
theorem dL_law_210 : decode cL_law 210 = .ok (.iaload, 1) := by decide +kernel
theorem dL_law_211 : decode cL_law 211 = .ok (.aload_n 0, 1) := by decide +kernel
theorem dL_law_212 : decode cL_law 212 = .ok (.iload_n 3, 1) := by decide +kernel
theorem dL_law_213 : decode cL_law 213 = .ok (.iconst 2, 1) := by decide +kernel
theorem dL_law_214 : decode cL_law 214 = .ok (.iadd, 1) := by decide +kernel
theorem dL_law_215 : decode cL_law 215 = .ok (.iaload, 1) := by decide +kernel
theorem dL_law_216 : decode cL_law 216 = .ok (.invokevirtual 22, 3) := by decide +kernel
theorem dL_law_219 : decode cL_law 219 = .ok (.if_icmp .eq 550, 3) := by decide +kernel
theorem dL_law_222 : decode cL_law 222 = .ok (.iconst 0, 1) := by decide +kernel
theorem dL_law_223 : decode cL_law 223 = .ok (.ireturn, 1) := by decide +kernel
theorem dL_law_224 : decode cL_law 224 = .ok (.aload_n 1, 1) := by decide +kernel
theorem dL_law_225 : decode cL_law 225 = .ok (.invokevirtual 23, 3) := by decide +kernel
theorem dL_law_228 : decode cL_law 228 = .ok (.aload_n 2, 1) := by decide +kernel
theorem dL_law_229 : decode cL_law 229 = .ok (.invokevirtual 27, 3) := by decide +kernel
theorem dL_law_232 : decode cL_law 232 = .ok (.if_icmp .eq 537, 3) := by decide +kernel
theorem dL_law_235 : decode cL_law 235 = .ok (.iconst 0, 1) := by decide +kernel
theorem dL_law_236 : decode cL_law 236 = .ok (.ireturn, 1) := by decide +kernel
theorem dL_law_237 : decode cL_law 237 = .ok (.aload_n 1, 1) := by decide +kernel
theorem dL_law_238 : decode cL_law 238 = .ok (.aload_n 0, 1) := by decide +kernel
theorem dL_law_239 : decode cL_law 239 = .ok (.iload_n 3, 1) := by decide +kernel
theorem dL_law_240 : decode cL_law 240 = .ok (.iconst 1, 1) := by decide +kernel
theorem dL_law_241 : decode cL_law 241 = .ok (.iadd, 1) := by decide +kernel
theorem dL_law_242 : decode cL_law 242 = .ok (.iaload, 1) := by decide +kernel
theorem dL_law_243 : decode cL_law 243 = .ok (.aload_n 0, 1) := by decide +kernel
theorem dL_law_244 : decode cL_law 244 = .ok (.iload_n 3, 1) := by decide +kernel
theorem dL_law_245 : decode cL_law 245 = .ok (.iconst 2, 1) := by decide +kernel
theorem dL_law_246 : decode cL_law 246 = .ok (.iadd, 1) := by decide +kernel
theorem dL_law_247 : decode cL_law 247 = .ok (.iaload, 1) := by decide +kernel
theorem dL_law_248 : decode cL_law 248 = .ok (.ifCond .eq 7, 3) := by decide +kernel
theorem dL_law_251 : decode cL_law 251 = .ok (.iconst 1, 1) := by decide +kernel
theorem dL_law_252 : decode cL_law 252 = .ok (.goto 4, 3) := by decide +kernel
theorem dL_law_255 : decode cL_law 255 = .ok (.iconst 0, 1) := by decide +kernel
theorem dL_law_256 : decode cL_law 256 = .ok (.invokevirtual 28, 3) := by decide +kernel
theorem dL_law_259 : decode cL_law 259 = .ok (.aload_n 2, 1) := by decide +kernel
theorem dL_law_260 : decode cL_law 260 = .ok (.aload_n 0, 1) := by decide +kernel
theorem dL_law_261 : decode cL_law 261 = .ok (.iload_n 3, 1) := by decide +kernel
theorem dL_law_262 : decode cL_law 262 = .ok (.iconst 1, 1) := by decide +kernel
theorem dL_law_263 : decode cL_law 263 = .ok (.iadd, 1) := by decide +kernel
theorem dL_law_264 : decode cL_law 264 = .ok (.iaload, 1) := by decide +kernel
theorem dL_law_265 : decode cL_law 265 = .ok (.aload_n 0, 1) := by decide +kernel
theorem dL_law_266 : decode cL_law 266 = .ok (.iload_n 3, 1) := by decide +kernel
theorem dL_law_267 : decode cL_law 267 = .ok (.iconst 2, 1) := by decide +kernel
theorem dL_law_268 : decode cL_law 268 = .ok (.iadd, 1) := by decide +kernel
theorem dL_law_269 : decode cL_law 269 = .ok (.iaload, 1) := by decide +kernel
theorem dL_law_270 : decode cL_law 270 = .ok (.ifCond .eq 7, 3) := by decide +kernel
theorem dL_law_273 : decode cL_law 273 = .ok (.iconst 1, 1) := by decide +kernel
theorem dL_law_274 : decode cL_law 274 = .ok (.goto 4, 3) := by decide +kernel
theorem dL_law_277 : decode cL_law 277 = .ok (.iconst 0, 1) := by decide +kernel
theorem dL_law_278 : decode cL_law 278 = .ok (.invokevirtual 32, 3) := by decide +kernel
theorem dL_law_281 : decode cL_law 281 = .ok (.if_icmp .eq 488, 3) := by decide +kernel
theorem dL_law_284 : decode cL_law 284 = .ok (.iconst 0, 1) := by decide +kernel
theorem dL_law_285 : decode cL_law 285 = .ok (.ireturn, 1) := by decide +kernel
theorem dL_law_286 : decode cL_law 286 = .ok (.aload_n 1, 1) := by decide +kernel
theorem dL_law_287 : decode cL_law 287 = .ok (.aload_n 0, 1) := by decide +kernel
theorem dL_law_288 : decode cL_law 288 = .ok (.iload_n 3, 1) := by decide +kernel
theorem dL_law_289 : decode cL_law 289 = .ok (.iconst 1, 1) := by decide +kernel
theorem dL_law_290 : decode cL_law 290 = .ok (.iadd, 1) := by decide +kernel
theorem dL_law_291 : decode cL_law 291 = .ok (.iaload, 1) := by decide +kernel
theorem dL_law_292 : decode cL_law 292 = .ok (.invokevirtual 33, 3) := by decide +kernel
theorem dL_law_295 : decode cL_law 295 = .ok (.aload_n 2, 1) := by decide +kernel
theorem dL_law_296 : decode cL_law 296 = .ok (.aload_n 0, 1) := by decide +kernel
theorem dL_law_297 : decode cL_law 297 = .ok (.iload_n 3, 1) := by decide +kernel
theorem dL_law_298 : decode cL_law 298 = .ok (.iconst 1, 1) := by decide +kernel
theorem dL_law_299 : decode cL_law 299 = .ok (.iadd, 1) := by decide +kernel
theorem dL_law_300 : decode cL_law 300 = .ok (.iaload, 1) := by decide +kernel
theorem dL_law_301 : decode cL_law 301 = .ok (.invokevirtual 37, 3) := by decide +kernel
theorem dL_law_304 : decode cL_law 304 = .ok (.if_icmp .eq 465, 3) := by decide +kernel
theorem dL_law_307 : decode cL_law 307 = .ok (.iconst 0, 1) := by decide +kernel
theorem dL_law_308 : decode cL_law 308 = .ok (.ireturn, 1) := by decide +kernel
theorem dL_law_309 : decode cL_law 309 = .ok (.aload_n 1, 1) := by decide +kernel
theorem dL_law_310 : decode cL_law 310 = .ok (.aload_n 0, 1) := by decide +kernel
theorem dL_law_311 : decode cL_law 311 = .ok (.iload_n 3, 1) := by decide +kernel
theorem dL_law_312 : decode cL_law 312 = .ok (.iconst 1, 1) := by decide +kernel
theorem dL_law_313 : decode cL_law 313 = .ok (.iadd, 1) := by decide +kernel
theorem dL_law_314 : decode cL_law 314 = .ok (.iaload, 1) := by decide +kernel
theorem dL_law_315 : decode cL_law 315 = .ok (.aload_n 0, 1) := by decide +kernel
theorem dL_law_316 : decode cL_law 316 = .ok (.iload_n 3, 1) := by decide +kernel
theorem dL_law_317 : decode cL_law 317 = .ok (.iconst 2, 1) := by decide +kernel
theorem dL_law_318 : decode cL_law 318 = .ok (.iadd, 1) := by decide +kernel
theorem dL_law_319 : decode cL_law 319 = .ok (.iaload, 1) := by decide +kernel
theorem dL_law_320 : decode cL_law 320 = .ok (.aload_n 0, 1) := by decide +kernel
theorem dL_law_321 : decode cL_law 321 = .ok (.iload_n 3, 1) := by decide +kernel
theorem dL_law_322 : decode cL_law 322 = .ok (.iconst 3, 1) := by decide +kernel
theorem dL_law_323 : decode cL_law 323 = .ok (.iadd, 1) := by decide +kernel
theorem dL_law_324 : decode cL_law 324 = .ok (.iaload, 1) := by decide +kernel
theorem dL_law_325 : decode cL_law 325 = .ok (.aload_n 0, 1) := by decide +kernel
theorem dL_law_326 : decode cL_law 326 = .ok (.iload_n 3, 1) := by decide +kernel
theorem dL_law_327 : decode cL_law 327 = .ok (.iconst 4, 1) := by decide +kernel
theorem dL_law_328 : decode cL_law 328 = .ok (.iadd, 1) := by decide +kernel
theorem dL_law_329 : decode cL_law 329 = .ok (.iaload, 1) := by decide +kernel
theorem dL_law_330 : decode cL_law 330 = .ok (.aload_n 0, 1) := by decide +kernel
theorem dL_law_331 : decode cL_law 331 = .ok (.iload_n 3, 1) := by decide +kernel
theorem dL_law_332 : decode cL_law 332 = .ok (.iconst 5, 1) := by decide +kernel
theorem dL_law_333 : decode cL_law 333 = .ok (.iadd, 1) := by decide +kernel
theorem dL_law_334 : decode cL_law 334 = .ok (.iaload, 1) := by decide +kernel
theorem dL_law_335 : decode cL_law 335 = .ok (.invokevirtual 38, 3) := by decide +kernel
theorem dL_law_338 : decode cL_law 338 = .ok (.aload_n 2, 1) := by decide +kernel
theorem dL_law_339 : decode cL_law 339 = .ok (.aload_n 0, 1) := by decide +kernel
theorem dL_law_340 : decode cL_law 340 = .ok (.iload_n 3, 1) := by decide +kernel
theorem dL_law_341 : decode cL_law 341 = .ok (.iconst 1, 1) := by decide +kernel
theorem dL_law_342 : decode cL_law 342 = .ok (.iadd, 1) := by decide +kernel
theorem dL_law_343 : decode cL_law 343 = .ok (.iaload, 1) := by decide +kernel
theorem dL_law_344 : decode cL_law 344 = .ok (.aload_n 0, 1) := by decide +kernel
theorem dL_law_345 : decode cL_law 345 = .ok (.iload_n 3, 1) := by decide +kernel
theorem dL_law_346 : decode cL_law 346 = .ok (.iconst 2, 1) := by decide +kernel
theorem dL_law_347 : decode cL_law 347 = .ok (.iadd, 1) := by decide +kernel
theorem dL_law_348 : decode cL_law 348 = .ok (.iaload, 1) := by decide +kernel
theorem dL_law_349 : decode cL_law 349 = .ok (.aload_n 0, 1) := by decide +kernel
theorem dL_law_350 : decode cL_law 350 = .ok (.iload_n 3, 1) := by decide +kernel
theorem dL_law_351 : decode cL_law 351 = .ok (.iconst 3, 1) := by decide +kernel
theorem dL_law_352 : decode cL_law 352 = .ok (.iadd, 1) := by decide +kernel
theorem dL_law_353 : decode cL_law 353 = .ok (.iaload, 1) := by decide +kernel
theorem dL_law_354 : decode cL_law 354 = .ok (.aload_n 0, 1) := by decide +kernel
theorem dL_law_355 : decode cL_law 355 = .ok (.iload_n 3, 1) := by decide +kernel
theorem dL_law_356 : decode cL_law 356 = .ok (.iconst 4, 1) := by decide +kernel
theorem dL_law_357 : decode cL_law 357 = .ok (.iadd, 1) := by decide +kernel
theorem dL_law_358 : decode cL_law 358 = .ok (.iaload, 1) := by decide +kernel
theorem dL_law_359 : decode cL_law 359 = .ok (.aload_n 0, 1) := by decide +kernel
theorem dL_law_360 : decode cL_law 360 = .ok (.iload_n 3, 1) := by decide +kernel
theorem dL_law_361 : decode cL_law 361 = .ok (.iconst 5, 1) := by decide +kernel
theorem dL_law_362 : decode cL_law 362 = .ok (.iadd, 1) := by decide +kernel
theorem dL_law_363 : decode cL_law 363 = .ok (.iaload, 1) := by decide +kernel
theorem dL_law_364 : decode cL_law 364 = .ok (.invokevirtual 42, 3) := by decide +kernel
theorem dL_law_367 : decode cL_law 367 = .ok (.if_icmp .eq 402, 3) := by decide +kernel
theorem dL_law_370 : decode cL_law 370 = .ok (.iconst 0, 1) := by decide +kernel
theorem dL_law_371 : decode cL_law 371 = .ok (.ireturn, 1) := by decide +kernel
theorem dL_law_372 : decode cL_law 372 = .ok (.aload_n 1, 1) := by decide +kernel
theorem dL_law_373 : decode cL_law 373 = .ok (.aload_n 0, 1) := by decide +kernel
theorem dL_law_374 : decode cL_law 374 = .ok (.iload_n 3, 1) := by decide +kernel
theorem dL_law_375 : decode cL_law 375 = .ok (.iconst 1, 1) := by decide +kernel
theorem dL_law_376 : decode cL_law 376 = .ok (.iadd, 1) := by decide +kernel
theorem dL_law_377 : decode cL_law 377 = .ok (.iaload, 1) := by decide +kernel
theorem dL_law_378 : decode cL_law 378 = .ok (.aload_n 0, 1) := by decide +kernel
theorem dL_law_379 : decode cL_law 379 = .ok (.iload_n 3, 1) := by decide +kernel
theorem dL_law_380 : decode cL_law 380 = .ok (.iconst 2, 1) := by decide +kernel
theorem dL_law_381 : decode cL_law 381 = .ok (.iadd, 1) := by decide +kernel
theorem dL_law_382 : decode cL_law 382 = .ok (.iaload, 1) := by decide +kernel
theorem dL_law_383 : decode cL_law 383 = .ok (.invokevirtual 43, 3) := by decide +kernel
theorem dL_law_386 : decode cL_law 386 = .ok (.aload_n 2, 1) := by decide +kernel
theorem dL_law_387 : decode cL_law 387 = .ok (.aload_n 0, 1) := by decide +kernel
theorem dL_law_388 : decode cL_law 388 = .ok (.iload_n 3, 1) := by decide +kernel
theorem dL_law_389 : decode cL_law 389 = .ok (.iconst 1, 1) := by decide +kernel
theorem dL_law_390 : decode cL_law 390 = .ok (.iadd, 1) := by decide +kernel
theorem dL_law_391 : decode cL_law 391 = .ok (.iaload, 1) := by decide +kernel
theorem dL_law_392 : decode cL_law 392 = .ok (.aload_n 0, 1) := by decide +kernel
theorem dL_law_393 : decode cL_law 393 = .ok (.iload_n 3, 1) := by decide +kernel
theorem dL_law_394 : decode cL_law 394 = .ok (.iconst 2, 1) := by decide +kernel
theorem dL_law_395 : decode cL_law 395 = .ok (.iadd, 1) := by decide +kernel
theorem dL_law_396 : decode cL_law 396 = .ok (.iaload, 1) := by decide +kernel
theorem dL_law_397 : decode cL_law 397 = .ok (.invokevirtual 46, 3) := by decide +kernel
theorem dL_law_400 : decode cL_law 400 = .ok (.if_icmp .eq 369, 3) := by decide +kernel
theorem dL_law_403 : decode cL_law 403 = .ok (.iconst 0, 1) := by decide +kernel
theorem dL_law_404 : decode cL_law 404 = .ok (.ireturn, 1) := by decide +kernel
theorem dL_law_405 : decode cL_law 405 = .ok (.aload_n 1, 1) := by decide +kernel
theorem dL_law_406 : decode cL_law 406 = .ok (.aload_n 0, 1) := by decide +kernel
theorem dL_law_407 : decode cL_law 407 = .ok (.iload_n 3, 1) := by decide +kernel
theorem dL_law_408 : decode cL_law 408 = .ok (.iconst 1, 1) := by decide +kernel
theorem dL_law_409 : decode cL_law 409 = .ok (.iadd, 1) := by decide +kernel
theorem dL_law_410 : decode cL_law 410 = .ok (.iaload, 1) := by decide +kernel
theorem dL_law_411 : decode cL_law 411 = .ok (.i2c, 1) := by decide +kernel
theorem dL_law_412 : decode cL_law 412 = .ok (.invokevirtual 47, 3) := by decide +kernel
theorem dL_law_415 : decode cL_law 415 = .ok (.aload_n 2, 1) := by decide +kernel
theorem dL_law_416 : decode cL_law 416 = .ok (.aload_n 0, 1) := by decide +kernel
theorem dL_law_417 : decode cL_law 417 = .ok (.iload_n 3, 1) := by decide +kernel
theorem dL_law_418 : decode cL_law 418 = .ok (.iconst 1, 1) := by decide +kernel
theorem dL_law_419 : decode cL_law 419 = .ok (.iadd, 1) := by decide +kernel
theorem dL_law_420 : decode cL_law 420 = .ok (.iaload, 1) := by decide +kernel
theorem dL_law_421 : decode cL_law 421 = .ok (.i2c, 1) := by decide +kernel
theorem dL_law_422 : decode cL_law 422 = .ok (.invokevirtual 51, 3) := by decide +kernel
theorem dL_law_425 : decode cL_law 425 = .ok (.if_icmp .eq 344, 3) := by decide +kernel
theorem dL_law_428 : decode cL_law 428 = .ok (.iconst 0, 1) := by decide +kernel
theorem dL_law_429 : decode cL_law 429 = .ok (.ireturn, 1) := by decide +kernel
theorem dL_law_430 : decode cL_law 430 = .ok (.aload_n 1, 1) := by decide +kernel
theorem dL_law_431 : decode cL_law 431 = .ok (.invokevirtual 52, 3) := by decide +kernel
theorem dL_law_434 : decode cL_law 434 = .ok (.aload_n 2, 1) := by decide +kernel
theorem dL_law_435 : decode cL_law 435 = .ok (.invokevirtual 55, 3) := by decide +kernel
theorem dL_law_438 : decode cL_law 438 = .ok (.if_icmp .eq 331, 3) := by decide +kernel
theorem dL_law_441 : decode cL_law 441 = .ok (.iconst 0, 1) := by decide +kernel
theorem dL_law_442 : decode cL_law 442 = .ok (.ireturn, 1) := by decide +kernel
theorem dL_law_443 : decode cL_law 443 = .ok (.aload_n 1, 1) := by decide +kernel
theorem dL_law_444 : decode cL_law 444 = .ok (.invokevirtual 56, 3) := by decide +kernel
theorem dL_law_447 : decode cL_law 447 = .ok (.aload_n 2, 1) := by decide +kernel
theorem dL_law_448 : decode cL_law 448 = .ok (.invokevirtual 59, 3) := by decide +kernel
theorem dL_law_451 : decode cL_law 451 = .ok (.if_icmp .eq 318, 3) := by decide +kernel
theorem dL_law_454 : decode cL_law 454 = .ok (.iconst 0, 1) := by decide +kernel
theorem dL_law_455 : decode cL_law 455 = .ok (.ireturn, 1) := by decide +kernel
theorem dL_law_456 : decode cL_law 456 = .ok (.aload_n 1, 1) := by decide +kernel
theorem dL_law_457 : decode cL_law 457 = .ok (.invokevirtual 60, 3) := by decide +kernel
theorem dL_law_460 : decode cL_law 460 = .ok (.aload_n 2, 1) := by decide +kernel
theorem dL_law_461 : decode cL_law 461 = .ok (.invokevirtual 63, 3) := by decide +kernel
theorem dL_law_464 : decode cL_law 464 = .ok (.if_icmp .eq 305, 3) := by decide +kernel
theorem dL_law_467 : decode cL_law 467 = .ok (.iconst 0, 1) := by decide +kernel
theorem dL_law_468 : decode cL_law 468 = .ok (.ireturn, 1) := by decide +kernel
theorem dL_law_469 : decode cL_law 469 = .ok (.aload_n 1, 1) := by decide +kernel
theorem dL_law_470 : decode cL_law 470 = .ok (.invokevirtual 64, 3) := by decide +kernel
theorem dL_law_473 : decode cL_law 473 = .ok (.aload_n 2, 1) := by decide +kernel
theorem dL_law_474 : decode cL_law 474 = .ok (.invokevirtual 67, 3) := by decide +kernel
theorem dL_law_477 : decode cL_law 477 = .ok (.if_icmp .eq 292, 3) := by decide +kernel
theorem dL_law_480 : decode cL_law 480 = .ok (.iconst 0, 1) := by decide +kernel
theorem dL_law_481 : decode cL_law 481 = .ok (.ireturn, 1) := by decide +kernel
theorem dL_law_482 : decode cL_law 482 = .ok (.aload_n 1, 1) := by decide +kernel
theorem dL_law_483 : decode cL_law 483 = .ok (.aload_n 0, 1) := by decide +kernel
theorem dL_law_484 : decode cL_law 484 = .ok (.iload_n 3, 1) := by decide +kernel
theorem dL_law_485 : decode cL_law 485 = .ok (.iconst 1, 1) := by decide +kernel
theorem dL_law_486 : decode cL_law 486 = .ok (.iadd, 1) := by decide +kernel
theorem dL_law_487 : decode cL_law 487 = .ok (.iaload, 1) := by decide +kernel
theorem dL_law_488 : decode cL_law 488 = .ok (.aload_n 0, 1) := by decide +kernel
theorem dL_law_489 : decode cL_law 489 = .ok (.iload_n 3, 1) := by decide +kernel
theorem dL_law_490 : decode cL_law 490 = .ok (.iconst 2, 1) := by decide +kernel
theorem dL_law_491 : decode cL_law 491 = .ok (.iadd, 1) := by decide +kernel
theorem dL_law_492 : decode cL_law 492 = .ok (.iaload, 1) := by decide +kernel
theorem dL_law_493 : decode cL_law 493 = .ok (.aload_n 0, 1) := by decide +kernel
theorem dL_law_494 : decode cL_law 494 = .ok (.iload_n 3, 1) := by decide +kernel
theorem dL_law_495 : decode cL_law 495 = .ok (.iconst 3, 1) := by decide +kernel
theorem dL_law_496 : decode cL_law 496 = .ok (.iadd, 1) := by decide +kernel
theorem dL_law_497 : decode cL_law 497 = .ok (.iaload, 1) := by decide +kernel
theorem dL_law_498 : decode cL_law 498 = .ok (.invokevirtual 68, 3) := by decide +kernel
theorem dL_law_501 : decode cL_law 501 = .ok (.aload_n 2, 1) := by decide +kernel
theorem dL_law_502 : decode cL_law 502 = .ok (.aload_n 0, 1) := by decide +kernel
theorem dL_law_503 : decode cL_law 503 = .ok (.iload_n 3, 1) := by decide +kernel
theorem dL_law_504 : decode cL_law 504 = .ok (.iconst 1, 1) := by decide +kernel
theorem dL_law_505 : decode cL_law 505 = .ok (.iadd, 1) := by decide +kernel
theorem dL_law_506 : decode cL_law 506 = .ok (.iaload, 1) := by decide +kernel
theorem dL_law_507 : decode cL_law 507 = .ok (.aload_n 0, 1) := by decide +kernel
theorem dL_law_508 : decode cL_law 508 = .ok (.iload_n 3, 1) := by decide +kernel
theorem dL_law_509 : decode cL_law 509 = .ok (.iconst 2, 1) := by decide +kernel
theorem dL_law_510 : decode cL_law 510 = .ok (.iadd, 1) := by decide +kernel
theorem dL_law_511 : decode cL_law 511 = .ok (.iaload, 1) := by decide +kernel
theorem dL_law_512 : decode cL_law 512 = .ok (.aload_n 0, 1) := by decide +kernel
theorem dL_law_513 : decode cL_law 513 = .ok (.iload_n 3, 1) := by decide +kernel
theorem dL_law_514 : decode cL_law 514 = .ok (.iconst 3, 1) := by decide +kernel
theorem dL_law_515 : decode cL_law 515 = .ok (.iadd, 1) := by decide +kernel
theorem dL_law_516 : decode cL_law 516 = .ok (.iaload, 1) := by decide +kernel
theorem dL_law_517 : decode cL_law 517 = .ok (.invokevirtual 72, 3) := by decide +kernel
theorem dL_law_520 : decode cL_law 520 = .ok (.if_icmp .eq 249, 3) := by decide +kernel
theorem dL_law_523 : decode cL_law 523 = .ok (.iconst 0, 1) := by decide +kernel
theorem dL_law_524 : decode cL_law 524 = .ok (.ireturn, 1) := by decide +kernel
theorem dL_law_525 : decode cL_law 525 = .ok (.aload_n 1, 1) := by decide +kernel
theorem dL_law_526 : decode cL_law 526 = .ok (.aload_n 0, 1) := by decide +kernel
theorem dL_law_527 : decode cL_law 527 = .ok (.iload_n 3, 1) := by decide +kernel
theorem dL_law_528 : decode cL_law 528 = .ok (.iconst 1, 1) := by decide +kernel
theorem dL_law_529 : decode cL_law 529 = .ok (.iadd, 1) := by decide +kernel
theorem dL_law_530 : decode cL_law 530 = .ok (.iaload, 1) := by decide +kernel
theorem dL_law_531 : decode cL_law 531 = .ok (.aload_n 0, 1) := by decide +kernel
theorem dL_law_532 : decode cL_law 532 = .ok (.iload_n 3, 1) := by decide +kernel
theorem dL_law_533 : decode cL_law 533 = .ok (.iconst 2, 1) := by decide +kernel
theorem dL_law_534 : decode cL_law 534 = .ok (.iadd, 1) := by decide +kernel
theorem dL_law_535 : decode cL_law 535 = .ok (.iaload, 1) := by decide +kernel
theorem dL_law_536 : decode cL_law 536 = .ok (.invokevirtual 73, 3) := by decide +kernel
theorem dL_law_539 : decode cL_law 539 = .ok (.aload_n 2, 1) := by decide +kernel
theorem dL_law_540 : decode cL_law 540 = .ok (.aload_n 0, 1) := by decide +kernel
theorem dL_law_541 : decode cL_law 541 = .ok (.iload_n 3, 1) := by decide +kernel
theorem dL_law_542 : decode cL_law 542 = .ok (.iconst 1, 1) := by decide +kernel
theorem dL_law_543 : decode cL_law 543 = .ok (.iadd, 1) := by decide +kernel
theorem dL_law_544 : decode cL_law 544 = .ok (.iaload, 1) := by decide +kernel
theorem dL_law_545 : decode cL_law 545 = .ok (.aload_n 0, 1) := by decide +kernel
theorem dL_law_546 : decode cL_law 546 = .ok (.iload_n 3, 1) := by decide +kernel
theorem dL_law_547 : decode cL_law 547 = .ok (.iconst 2, 1) := by decide +kernel
theorem dL_law_548 : decode cL_law 548 = .ok (.iadd, 1) := by decide +kernel
theorem dL_law_549 : decode cL_law 549 = .ok (.iaload, 1) := by decide +kernel
theorem dL_law_550 : decode cL_law 550 = .ok (.invokevirtual 76, 3) := by decide +kernel
theorem dL_law_553 : decode cL_law 553 = .ok (.if_icmp .eq 216, 3) := by decide +kernel
theorem dL_law_556 : decode cL_law 556 = .ok (.iconst 0, 1) := by decide +kernel
theorem dL_law_557 : decode cL_law 557 = .ok (.ireturn, 1) := by decide +kernel
theorem dL_law_558 : decode cL_law 558 = .ok (.aload_n 1, 1) := by decide +kernel
theorem dL_law_559 : decode cL_law 559 = .ok (.aload_n 0, 1) := by decide +kernel
theorem dL_law_560 : decode cL_law 560 = .ok (.iload_n 3, 1) := by decide +kernel
theorem dL_law_561 : decode cL_law 561 = .ok (.iconst 1, 1) := by decide +kernel
theorem dL_law_562 : decode cL_law 562 = .ok (.iadd, 1) := by decide +kernel
theorem dL_law_563 : decode cL_law 563 = .ok (.iaload, 1) := by decide +kernel
theorem dL_law_564 : decode cL_law 564 = .ok (.aload_n 0, 1) := by decide +kernel
theorem dL_law_565 : decode cL_law 565 = .ok (.iload_n 3, 1) := by decide +kernel
theorem dL_law_566 : decode cL_law 566 = .ok (.iconst 2, 1) := by decide +kernel
theorem dL_law_567 : decode cL_law 567 = .ok (.iadd, 1) := by decide +kernel
theorem dL_law_568 : decode cL_law 568 = .ok (.iaload, 1) := by decide +kernel
theorem dL_law_569 : decode cL_law 569 = .ok (.invokevirtual 77, 3) := by decide +kernel
theorem dL_law_572 : decode cL_law 572 = .ok (.aload_n 2, 1) := by decide +kernel
theorem dL_law_573 : decode cL_law 573 = .ok (.aload_n 0, 1) := by decide +kernel
theorem dL_law_574 : decode cL_law 574 = .ok (.iload_n 3, 1) := by decide +kernel
theorem dL_law_575 : decode cL_law 575 = .ok (.iconst 1, 1) := by decide +kernel
theorem dL_law_576 : decode cL_law 576 = .ok (.iadd, 1) := by decide +kernel
theorem dL_law_577 : decode cL_law 577 = .ok (.iaload, 1) := by decide +kernel
theorem dL_law_578 : decode cL_law 578 = .ok (.aload_n 0, 1) := by decide +kernel
theorem dL_law_579 : decode cL_law 579 = .ok (.iload_n 3, 1) := by decide +kernel
theorem dL_law_580 : decode cL_law 580 = .ok (.iconst 2, 1) := by decide +kernel
theorem dL_law_581 : decode cL_law 581 = .ok (.iadd, 1) := by decide +kernel
theorem dL_law_582 : decode cL_law 582 = .ok (.iaload, 1) := by decide +kernel
theorem dL_law_583 : decode cL_law 583 = .ok (.invokevirtual 80, 3) := by decide +kernel
theorem dL_law_586 : decode cL_law 586 = .ok (.if_icmp .eq 183, 3) := by decide +kernel
theorem dL_law_589 : decode cL_law 589 = .ok (.iconst 0, 1) := by decide +kernel
theorem dL_law_590 : decode cL_law 590 = .ok (.ireturn, 1) := by decide +kernel
theorem dL_law_591 : decode cL_law 591 = .ok (.aload_n 1, 1) := by decide +kernel
theorem dL_law_592 : decode cL_law 592 = .ok (.aload_n 0, 1) := by decide +kernel
theorem dL_law_593 : decode cL_law 593 = .ok (.iload_n 3, 1) := by decide +kernel
theorem dL_law_594 : decode cL_law 594 = .ok (.iconst 1, 1) := by decide +kernel
theorem dL_law_595 : decode cL_law 595 = .ok (.iadd, 1) := by decide +kernel
theorem dL_law_596 : decode cL_law 596 = .ok (.iaload, 1) := by decide +kernel
theorem dL_law_597 : decode cL_law 597 = .ok (.aload_n 0, 1) := by decide +kernel
theorem dL_law_598 : decode cL_law 598 = .ok (.iload_n 3, 1) := by decide +kernel
theorem dL_law_599 : decode cL_law 599 = .ok (.iconst 2, 1) := by decide +kernel
theorem dL_law_600 : decode cL_law 600 = .ok (.iadd, 1) := by decide +kernel
theorem dL_law_601 : decode cL_law 601 = .ok (.iaload, 1) := by decide +kernel
theorem dL_law_602 : decode cL_law 602 = .ok (.invokevirtual 81, 3) := by decide +kernel
theorem dL_law_605 : decode cL_law 605 = .ok (.aload_n 2, 1) := by decide +kernel
theorem dL_law_606 : decode cL_law 606 = .ok (.aload_n 0, 1) := by decide +kernel
theorem dL_law_607 : decode cL_law 607 = .ok (.iload_n 3, 1) := by decide +kernel
theorem dL_law_608 : decode cL_law 608 = .ok (.iconst 1, 1) := by decide +kernel
theorem dL_law_609 : decode cL_law 609 = .ok (.iadd, 1) := by decide +kernel
theorem dL_law_610 : decode cL_law 610 = .ok (.iaload, 1) := by decide +kernel
theorem dL_law_611 : decode cL_law 611 = .ok (.aload_n 0, 1) := by decide +kernel
theorem dL_law_612 : decode cL_law 612 = .ok (.iload_n 3, 1) := by decide +kernel
theorem dL_law_613 : decode cL_law 613 = .ok (.iconst 2, 1) := by decide +kernel
theorem dL_law_614 : decode cL_law 614 = .ok (.iadd, 1) := by decide +kernel
theorem dL_law_615 : decode cL_law 615 = .ok (.iaload, 1) := by decide +kernel
theorem dL_law_616 : decode cL_law 616 = .ok (.invokevirtual 84, 3) := by decide +kernel
theorem dL_law_619 : decode cL_law 619 = .ok (.if_icmp .eq 150, 3) := by decide +kernel
theorem dL_law_622 : decode cL_law 622 = .ok (.iconst 0, 1) := by decide +kernel
theorem dL_law_623 : decode cL_law 623 = .ok (.ireturn, 1) := by decide +kernel
theorem dL_law_624 : decode cL_law 624 = .ok (.aload_n 1, 1) := by decide +kernel
theorem dL_law_625 : decode cL_law 625 = .ok (.aload_n 0, 1) := by decide +kernel
theorem dL_law_626 : decode cL_law 626 = .ok (.iload_n 3, 1) := by decide +kernel
theorem dL_law_627 : decode cL_law 627 = .ok (.iconst 1, 1) := by decide +kernel
theorem dL_law_628 : decode cL_law 628 = .ok (.iadd, 1) := by decide +kernel
theorem dL_law_629 : decode cL_law 629 = .ok (.iaload, 1) := by decide +kernel
theorem dL_law_630 : decode cL_law 630 = .ok (.aload_n 0, 1) := by decide +kernel
theorem dL_law_631 : decode cL_law 631 = .ok (.iload_n 3, 1) := by decide +kernel
theorem dL_law_632 : decode cL_law 632 = .ok (.iconst 2, 1) := by decide +kernel
theorem dL_law_633 : decode cL_law 633 = .ok (.iadd, 1) := by decide +kernel
theorem dL_law_634 : decode cL_law 634 = .ok (.iaload, 1) := by decide +kernel
theorem dL_law_635 : decode cL_law 635 = .ok (.aload_n 0, 1) := by decide +kernel
theorem dL_law_636 : decode cL_law 636 = .ok (.iload_n 3, 1) := by decide +kernel
theorem dL_law_637 : decode cL_law 637 = .ok (.iconst 3, 1) := by decide +kernel
theorem dL_law_638 : decode cL_law 638 = .ok (.iadd, 1) := by decide +kernel
theorem dL_law_639 : decode cL_law 639 = .ok (.iaload, 1) := by decide +kernel
theorem dL_law_640 : decode cL_law 640 = .ok (.invokevirtual 85, 3) := by decide +kernel
theorem dL_law_643 : decode cL_law 643 = .ok (.aload_n 2, 1) := by decide +kernel
theorem dL_law_644 : decode cL_law 644 = .ok (.aload_n 0, 1) := by decide +kernel
theorem dL_law_645 : decode cL_law 645 = .ok (.iload_n 3, 1) := by decide +kernel
theorem dL_law_646 : decode cL_law 646 = .ok (.iconst 1, 1) := by decide +kernel
theorem dL_law_647 : decode cL_law 647 = .ok (.iadd, 1) := by decide +kernel
theorem dL_law_648 : decode cL_law 648 = .ok (.iaload, 1) := by decide +kernel
theorem dL_law_649 : decode cL_law 649 = .ok (.aload_n 0, 1) := by decide +kernel
theorem dL_law_650 : decode cL_law 650 = .ok (.iload_n 3, 1) := by decide +kernel
theorem dL_law_651 : decode cL_law 651 = .ok (.iconst 2, 1) := by decide +kernel
theorem dL_law_652 : decode cL_law 652 = .ok (.iadd, 1) := by decide +kernel
theorem dL_law_653 : decode cL_law 653 = .ok (.iaload, 1) := by decide +kernel
theorem dL_law_654 : decode cL_law 654 = .ok (.aload_n 0, 1) := by decide +kernel
theorem dL_law_655 : decode cL_law 655 = .ok (.iload_n 3, 1) := by decide +kernel
theorem dL_law_656 : decode cL_law 656 = .ok (.iconst 3, 1) := by decide +kernel
theorem dL_law_657 : decode cL_law 657 = .ok (.iadd, 1) := by decide +kernel
theorem dL_law_658 : decode cL_law 658 = .ok (.iaload, 1) := by decide +kernel
theorem dL_law_659 : decode cL_law 659 = .ok (.invokevirtual 88, 3) := by decide +kernel
theorem dL_law_662 : decode cL_law 662 = .ok (.if_icmp .eq 107, 3) := by decide +kernel
theorem dL_law_665 : decode cL_law 665 = .ok (.iconst 0, 1) := by decide +kernel
theorem dL_law_666 : decode cL_law 666 = .ok (.ireturn, 1) := by decide +kernel
theorem dL_law_667 : decode cL_law 667 = .ok (.aload_n 1, 1) := by decide +kernel
theorem dL_law_668 : decode cL_law 668 = .ok (.aload_n 0, 1) := by decide +kernel
theorem dL_law_669 : decode cL_law 669 = .ok (.iload_n 3, 1) := by decide +kernel
theorem dL_law_670 : decode cL_law 670 = .ok (.iconst 1, 1) := by decide +kernel
theorem dL_law_671 : decode cL_law 671 = .ok (.iadd, 1) := by decide +kernel
theorem dL_law_672 : decode cL_law 672 = .ok (.iaload, 1) := by decide +kernel
theorem dL_law_673 : decode cL_law 673 = .ok (.aload_n 0, 1) := by decide +kernel
theorem dL_law_674 : decode cL_law 674 = .ok (.iload_n 3, 1) := by decide +kernel
theorem dL_law_675 : decode cL_law 675 = .ok (.iconst 2, 1) := by decide +kernel
theorem dL_law_676 : decode cL_law 676 = .ok (.iadd, 1) := by decide +kernel
theorem dL_law_677 : decode cL_law 677 = .ok (.iaload, 1) := by decide +kernel
theorem dL_law_678 : decode cL_law 678 = .ok (.invokevirtual 89, 3) := by decide +kernel
theorem dL_law_681 : decode cL_law 681 = .ok (.aload_n 2, 1) := by decide +kernel
theorem dL_law_682 : decode cL_law 682 = .ok (.aload_n 0, 1) := by decide +kernel
theorem dL_law_683 : decode cL_law 683 = .ok (.iload_n 3, 1) := by decide +kernel
theorem dL_law_684 : decode cL_law 684 = .ok (.iconst 1, 1) := by decide +kernel
theorem dL_law_685 : decode cL_law 685 = .ok (.iadd, 1) := by decide +kernel
theorem dL_law_686 : decode cL_law 686 = .ok (.iaload, 1) := by decide +kernel
theorem dL_law_687 : decode cL_law 687 = .ok (.aload_n 0, 1) := by decide +kernel
theorem dL_law_688 : decode cL_law 688 = .ok (.iload_n 3, 1) := by decide +kernel
theorem dL_law_689 : decode cL_law 689 = .ok (.iconst 2, 1) := by decide +kernel
theorem dL_law_690 : decode cL_law 690 = .ok (.iadd, 1) := by decide +kernel
theorem dL_law_691 : decode cL_law 691 = .ok (.iaload, 1) := by decide +kernel
theorem dL_law_692 : decode cL_law 692 = .ok (.invokevirtual 92, 3) := by decide +kernel
theorem dL_law_695 : decode cL_law 695 = .ok (.if_icmp .eq 74, 3) := by decide +kernel
theorem dL_law_698 : decode cL_law 698 = .ok (.iconst 0, 1) := by decide +kernel
theorem dL_law_699 : decode cL_law 699 = .ok (.ireturn, 1) := by decide +kernel
theorem dL_law_700 : decode cL_law 700 = .ok (.aload_n 1, 1) := by decide +kernel
theorem dL_law_701 : decode cL_law 701 = .ok (.invokevirtual 93, 3) := by decide +kernel
theorem dL_law_704 : decode cL_law 704 = .ok (.aload_n 2, 1) := by decide +kernel
theorem dL_law_705 : decode cL_law 705 = .ok (.invokevirtual 96, 3) := by decide +kernel
theorem dL_law_708 : decode cL_law 708 = .ok (.if_icmp .eq 61, 3) := by decide +kernel
theorem dL_law_711 : decode cL_law 711 = .ok (.iconst 0, 1) := by decide +kernel
theorem dL_law_712 : decode cL_law 712 = .ok (.ireturn, 1) := by decide +kernel
theorem dL_law_713 : decode cL_law 713 = .ok (.aload_n 1, 1) := by decide +kernel
theorem dL_law_714 : decode cL_law 714 = .ok (.aload_n 0, 1) := by decide +kernel
theorem dL_law_715 : decode cL_law 715 = .ok (.iload_n 3, 1) := by decide +kernel
theorem dL_law_716 : decode cL_law 716 = .ok (.iconst 1, 1) := by decide +kernel
theorem dL_law_717 : decode cL_law 717 = .ok (.iadd, 1) := by decide +kernel
theorem dL_law_718 : decode cL_law 718 = .ok (.iaload, 1) := by decide +kernel
theorem dL_law_719 : decode cL_law 719 = .ok (.aload_n 0, 1) := by decide +kernel
theorem dL_law_720 : decode cL_law 720 = .ok (.iload_n 3, 1) := by decide +kernel
theorem dL_law_721 : decode cL_law 721 = .ok (.iconst 2, 1) := by decide +kernel
theorem dL_law_722 : decode cL_law 722 = .ok (.iadd, 1) := by decide +kernel
theorem dL_law_723 : decode cL_law 723 = .ok (.iaload, 1) := by decide +kernel
theorem dL_law_724 : decode cL_law 724 = .ok (.invokevirtual 97, 3) := by decide +kernel
theorem dL_law_727 : decode cL_law 727 = .ok (.aload_n 2, 1) := by decide +kernel
theorem dL_law_728 : decode cL_law 728 = .ok (.aload_n 0, 1) := by decide +kernel
theorem dL_law_729 : decode cL_law 729 = .ok (.iload_n 3, 1) := by decide +kernel
theorem dL_law_730 : decode cL_law 730 = .ok (.iconst 1, 1) := by decide +kernel
theorem dL_law_731 : decode cL_law 731 = .ok (.iadd, 1) := by decide +kernel
theorem dL_law_732 : decode cL_law 732 = .ok (.iaload, 1) := by decide +kernel
theorem dL_law_733 : decode cL_law 733 = .ok (.aload_n 0, 1) := by decide +kernel
theorem dL_law_734 : decode cL_law 734 = .ok (.iload_n 3, 1) := by decide +kernel
theorem dL_law_735 : decode cL_law 735 = .ok (.iconst 2, 1) := by decide +kernel
theorem dL_law_736 : decode cL_law 736 = .ok (.iadd, 1) := by decide +kernel
theorem dL_law_737 : decode cL_law 737 = .ok (.iaload, 1) := by decide +kernel
theorem dL_law_738 : decode cL_law 738 = .ok (.invokevirtual 100, 3) := by decide +kernel
theorem dL_law_741 : decode cL_law 741 = .ok (.if_icmp .eq 28, 3) := by decide +kernel
theorem dL_law_744 : decode cL_law 744 = .ok (.iconst 0, 1) := by decide +kernel
theorem dL_law_745 : decode cL_law 745 = .ok (.ireturn, 1) := by decide +kernel
theorem dL_law_746 : decode cL_law 746 = .ok (.aload_n 1, 1) := by decide +kernel
theorem dL_law_747 : decode cL_law 747 = .ok (.aload_n 0, 1) := by decide +kernel
theorem dL_law_748 : decode cL_law 748 = .ok (.iload_n 3, 1) := by decide +kernel
theorem dL_law_749 : decode cL_law 749 = .ok (.iconst 1, 1) := by decide +kernel
theorem dL_law_750 : decode cL_law 750 = .ok (.iadd, 1) := by decide +kernel
theorem dL_law_751 : decode cL_law 751 = .ok (.iaload, 1) := by decide +kernel
theorem dL_law_752 : decode cL_law 752 = .ok (.invokevirtual 101, 3) := by decide +kernel
theorem dL_law_755 : decode cL_law 755 = .ok (.aload_n 2, 1) := by decide +kernel
theorem dL_law_756 : decode cL_law 756 = .ok (.aload_n 0, 1) := by decide +kernel
theorem dL_law_757 : decode cL_law 757 = .ok (.iload_n 3, 1) := by decide +kernel
theorem dL_law_758 : decode cL_law 758 = .ok (.iconst 1, 1) := by decide +kernel
theorem dL_law_759 : decode cL_law 759 = .ok (.iadd, 1) := by decide +kernel
theorem dL_law_760 : decode cL_law 760 = .ok (.iaload, 1) := by decide +kernel
theorem dL_law_761 : decode cL_law 761 = .ok (.invokevirtual 104, 3) := by decide +kernel
theorem dL_law_764 : decode cL_law 764 = .ok (.if_icmp .eq 5, 3) := by decide +kernel
theorem dL_law_767 : decode cL_law 767 = .ok (.iconst 0, 1) := by decide +kernel
theorem dL_law_768 : decode cL_law 768 = .ok (.ireturn, 1) := by decide +kernel
theorem dL_law_769 : decode cL_law 769 = .ok (.iinc 3 6, 3) := by decide +kernel
theorem dL_law_772 : decode cL_law 772 = .ok (.goto (-754), 3) := by decide +kernel
theorem dL_law_775 : decode cL_law 775 = .ok (.iconst 1, 1) := by decide +kernel
theorem dL_law_776 : decode cL_law 776 = .ok (.ireturn, 1) := by decide +kernel
end
section
/-! the memory: rows of ints; the cells of both systems at addresses a i c (group i, cell c); strings at a 9, their bytes at a 10, the two static rows at a 11 -/
abbrev Mem := Nat → Nat → Int32
def zUp (g : Mem) (i : Nat) (v : Nat → Int32) : Mem := fun j => if j = i then v else g j
theorem zUp_s (g : Mem) (i : Nat) (v : Nat → Int32) : zUp g i v i = v := by simp [zUp]
theorem zUp_n (g : Mem) {i j : Nat} (v : Nat → Int32) (h : j ≠ i) : zUp g i v j = g j := by simp [zUp, h]
theorem zUp_u (g : Mem) (i : Nat) (v w : Nat → Int32) : zUp (zUp g i v) i w = zUp g i w := by funext j; by_cases h : j = i <;> simp [zUp, h]
theorem zUp_id (g : Mem) (i : Nat) : zUp g i (g i) = g := by funext j; by_cases h : j = i <;> simp [zUp, h]
theorem zUp_c (g : Mem) {i j : Nat} (v w : Nat → Int32) (h : i ≠ j) : zUp (zUp g i v) j w = zUp (zUp g j w) i v := by
  funext q
  by_cases h1 : q = i <;> by_cases h2 : q = j <;> simp [zUp, h1, h2] <;> omega
theorem zu_s (v : Nat → Int32) (j : Nat) (x : Int32) : upd v j x j = x := by simp [upd]
theorem zu_n (v : Nat → Int32) {i j : Nat} (x : Int32) (h : j ≠ i) : upd v i x j = v j := by simp [upd, h]
/-- a State's cells -/
def zSt (k : Nat → ClassId) (b : Nat → Nat) (v : Nat → Int32) (c : Nat) : va_E :=
  if c = 0 then .inr (3, [.ref (b 1), .ref (b 2), .ref (b 3), .int (v 145), .int (v 146), .int (v 147), .int (v 148), .int (v 149), .int (v 150), .int (v 151)])
  else if c = 1 then .inl (k 2, 4, .inr (.inr (.inr (.inr (fun i => some (b (4 + i)))))))
  else if c = 2 then .inl (k 3, 12, .inr (.inr (.inr (.inr (fun i => some (b (8 + i)))))))
  else if c = 3 then .inl (k 1, 5, .inl (fun j => if j < 5 then v (8 + j) else 0))
  else if c < 8 then .inr (4, [.int (v (c - 4)), .int (v (4 + (c - 4))), .int (v (152 + (c - 4))), .int (v (156 + (c - 4)))])
  else .inr (1, [.int (v (13 + 11 * (c - 8) + 0)), .int (v (13 + 11 * (c - 8) + 8)), .int (v (13 + 11 * (c - 8) + 1)), .int (v (13 + 11 * (c - 8) + 2)), .int (v (13 + 11 * (c - 8) + 3)), .int (v (13 + 11 * (c - 8) + 4)), .int (v (13 + 11 * (c - 8) + 5)), .int (v (13 + 11 * (c - 8) + 10)), .int (v (13 + 11 * (c - 8) + 9)), .int (v (13 + 11 * (c - 8) + 6)), .int (v (13 + 11 * (c - 8) + 7))])
/-- the other cells -/
def zMi (k : Nat → ClassId) (a : Nat → Nat → Nat) (g : Mem) (c : Nat) : va_E :=
  if c = 0 then .inr (5, [.ref (a 0 0), .ref (a 1 0), .ref (a 6 1), .ref (a 6 3), .int (g 6 5)])
  else if c = 1 then .inr (0, [.ref (a 6 2), .int (g 6 0), .int (g 6 1)])
  else if c = 2 then .inl (k 4, 4, .inr (.inr (.inr (.inr (fun i => some (a (2 + i) 0))))))
  else if c = 3 then .inr (2, [.ref (a 6 4), .int (g 6 2), .ref (a 6 5), .ref (a 6 6), .ref (a 6 7), .int (g 6 3), .int (g 6 4)])
  else if c = 4 then .inl (k 0, 80, .inl (g 7))
  else if c = 5 then .inl (k 1, 11, .inl (g 8))
  else if c = 6 then .inl (k 1, 11, .inl (g 9))
  else if c = 7 then .inl (k 1, 11, .inl (g 17))
  else if c = 8 then .inr (6, [.ref (a 6 9), .int (g 18 0), .int (g 18 1), .ref (a 6 10), .int (g 18 2), .int (g 18 3), .int (g 18 4), .int (g 18 5), .int (g 18 6), .int (g 18 7), .int (g 18 8), .int (g 18 9)])
  else if c = 9 then .inl (k 1, 1120, .inl (fun j => if j < 1120 then g (10 + j / 160) (j % 160) else 0))
  else .inl (k 0, 80, .inl (g 19))
def zE (k : Nat → ClassId) (a : Nat → Nat → Nat) (g : Mem) (i c : Nat) : va_E := if i < 6 then zSt k (a i) (g i) c else zMi k a g c
def zW (k : Nat → ClassId) (a : Nat → Nat → Nat) (g : Mem) : va_W := (List.range 131).map (fun i => (a (i / 20) (i % 20), zE k a g (i / 20) (i % 20)))
def zInj (a : Nat → Nat → Nat) : Prop := ∀ i j, i < 131 → j < 131 → a (i / 20) (i % 20) = a (j / 20) (j % 20) → i = j
def zA (a : Nat → Nat → Nat) : Nat → Prop := fun q => ∃ i, i < 131 ∧ q = a (i / 20) (i % 20)
abbrev zTy (k : Nat → ClassId) : List (ClassId × FieldType) := [(k 0, .char), (k 1, .int), (k 2, .object "KeptPlans$Table"), (k 3, .object "KeptPlans$Plan"), (k 4, .object "KeptPlans$State")]
theorem zW_at {k : Nat → ClassId} {a : Nat → Nat → Nat} {g : Mem} {i c : Nat} (hc : c < 20) (h : 20 * i + c < 131) {e : va_E} (he : zE k a g i c = e) : (zW k a g)[20 * i + c]? = some (a i c, e) := by
  subst he
  have h1 : (20 * i + c) / 20 = i := by omega
  have h2 : (20 * i + c) % 20 = c := by omega
  simp only [zW, List.getElem?_map, List.getElem?_range h, Option.map_some, h1, h2]
theorem zW_k {k : Nat → ClassId} {a : Nat → Nat → Nat} {g : Mem} {j : Nat} {q : Nat × va_E} (h : (zW k a g)[j]? = some q) : j < 131 ∧ q = (a (j / 20) (j % 20), zE k a g (j / 20) (j % 20)) := by
  have hl : j < 131 := by
    have := (List.getElem?_eq_some_iff.mp h).1
    simpa [zW] using this
  simp only [zW, List.getElem?_map, List.getElem?_range hl, Option.map_some] at h
  exact ⟨hl, (Option.some.inj h).symm⟩
theorem zW_set {k : Nat → ClassId} {a : Nat → Nat → Nat} {g g' : Mem} {i c : Nat} (hc : c < 20) (h : 20 * i + c < 131) {e : va_E} (he : zE k a g' i c = e) (ho : ∀ j, j < 131 → j ≠ 20 * i + c → zE k a g' (j / 20) (j % 20) = zE k a g (j / 20) (j % 20)) : (zW k a g).set (20 * i + c) (a i c, e) = zW k a g' := by
  subst he
  have h1 : (20 * i + c) / 20 = i := by omega
  have h2 : (20 * i + c) % 20 = c := by omega
  apply List.ext_getElem?
  intro j
  by_cases hj : j = 20 * i + c
  · subst hj
    rw [List.getElem?_set_self (by simpa [zW] using h), zW_at hc h rfl]
  · rw [List.getElem?_set_ne (Ne.symm hj)]
    by_cases hl : j < 131
    · simp only [zW, List.getElem?_map, List.getElem?_range hl, Option.map_some, ho j hl hj]
    · rw [List.getElem?_eq_none (by simp [zW]; omega), List.getElem?_eq_none (by simp [zW]; omega)]
theorem zD {k : Nat → ClassId} {a : Nat → Nat → Nat} {g : Mem} (h : zInj a) : va_D (zA a) (zW k a g) := by
  refine ⟨fun i j p q hi hj hpq => ?_, fun j q hq => ?_⟩
  · obtain ⟨l1, rfl⟩ := zW_k hi
    obtain ⟨l2, rfl⟩ := zW_k hj
    exact h i j l1 l2 hpq
  · obtain ⟨l1, rfl⟩ := zW_k hq
    exact ⟨j, l1, rfl⟩
def zLe (j : Nat) : Int32 := if j = 0 then 0 else 1
def zMo (j : Nat) : Int32 := if j = 0 then 999 else if j = 1 then 20 else if j = 2 then 999 else if j = 3 then 12 else 20
def zLen : List Nat := [3, 1, 4, 3, 4, 1, 1]
def zByt : List (List Int32) := [[107, 101, 121], [115], [115, 112, 97, 110], [116, 111, 112], [114, 111, 119, 115], [32], [59]]
/-- what stands outside the cells: static rows, string constants, words of the nest -/
def zX (a : Nat → Nat → Nat) (U : State) (H : Heap) : Prop :=
  va_Z "KeptPlans" "LEAST_SETTING" "[I" (.ref (a 11 0)) (zA a) U H ∧ va_T .int (a 11 0) 5 (fun j => .int (zLe j)) (zA a) U H ∧
  va_Z "KeptPlans" "MOST_SETTING" "[I" (.ref (a 11 1)) (zA a) U H ∧ va_T .int (a 11 1) 5 (fun j => .int (zMo j)) (zA a) U H ∧
  vk_S 7 zLen zByt (a 9) (a 10) (zA a) U H ∧ va_Z "java/lang/String" "COMPACT_STRINGS" "Z" (.int 1) (zA a) U H ∧ va_Zq "jdk/internal/util/Preconditions" "SIOOBE_FORMATTER" "Ljava/util/function/BiFunction;" (zA a) U H ∧
  va_Nw (.methodLinkNest RX3 68 yX5_bitsOf "KeptPlans") U ∧ va_Nw (.methodLinkNest RX3 82 yX5_quotient "KeptPlans") U ∧
  vk_R RX2 65 "key" (a 9 0) U ∧ vk_R RX2 67 "s" (a 9 1) U ∧ vk_R RX2 59 "span" (a 9 2) U ∧ vk_R RX2 61 "top" (a 9 3) U ∧ vk_R RX2 63 "rows" (a 9 4) U ∧ vk_R RX2 69 " " (a 9 5) U ∧ vk_R RX2 39 ";" (a 9 6) U
theorem zX.go {a : Nat → Nat → Nat} {s U : State} {H H0 : Heap} (h : zX a s H0) (hW : s.WarmedH U.vm) (hq : ∀ q : Nat, q < H0.size → ¬ zA a q → H[q]? = H0[q]?) : zX a U H := by
  obtain ⟨h1, h2, h3, h4, h5, h6, h7, h8, h9, r1, r2, r3, r4, r5, r6, r7⟩ := h
  have hv := hW.alike
  exact ⟨(h1.moved hv).kept hq, (h2.moved hv).kept hq, (h3.moved hv).kept hq, (h4.moved hv).kept hq, (h5.moved hv).kept hq, (h6.moved hv).kept hq, (h7.moved hv).kept hq, va_Nw.warmM hW h8, va_Nw.warmM hW h9, r1.warm hW, r2.warm hW, r3.warm hW, r4.warm hW, r5.warm hW, r6.warm hW, r7.warm hW⟩
theorem zX.same {a : Nat → Nat → Nat} {u U : State} {H : Heap} (h : zX a u H) (hv : U.vm = u.vm) : zX a U H := by
  obtain ⟨h1, h2, h3, h4, h5, h6, h7, h8, h9, r1, r2, r3, r4, r5, r6, r7⟩ := h
  have hv' : u.vm.Alike U.vm := by rw [hv]; exact Vm.Alike.refl _
  exact ⟨h1.moved hv', h2.moved hv', h3.moved hv', h4.moved hv', h5.moved hv', h6.moved hv', h7.moved hv', va_Nw.same rfl hv.symm h8, va_Nw.same rfl hv.symm h9, r1.same hv, r2.same hv, r3.same hv, r4.same hv, r5.same hv, r6.same hv, r7.same hv⟩
/-- a method's start -/
def zPc (D : va_G) (k : Nat → ClassId) (a : Nat → Nat → Nat) (g : Mem) (U : State) : Prop := va_P D vwCl (zW k a g) U.heap ∧ va_K D vwCl (zTy k) U ∧ zInj a ∧ zX a U U.heap
theorem zPc.blind {D : va_G} {k : Nat → ClassId} {a : Nat → Nat → Nat} {g : Mem} {As : List Value} : FrameBlind (va_Pc As (zPc D k a g)) := by
  rintro v U f mk ⟨h0, h1, h2, h3, h4⟩
  exact ⟨h0, h1, va_K.moved (u := U) (U := U.calling f mk v) (Vm.Alike.refl U.vm) h2, h3, zX.same h4 rfl⟩
/-- the heap inside a method: the cells as g has them, all else as at its start -/
def zH (D : va_G) (k : Nat → ClassId) (a : Nat → Nat → Nat) (s : State) (g : Mem) (H : Heap) (locs : List Loc) : Prop := va_P D vwCl (zW k a g) H ∧ va_S (zA a) s.heap H locs
/-- what stands fast inside a method -/
def zC (p : Program) (m : MethodId) (c : Code) (cc : ByteArray) (nL : Nat) (s : State) (args : Array Value) (own : String) (D : va_G) (k : Nat → ClassId) (a : Nat → Nat → Nat) : Prop :=
  CallFix p m c cc nL s args GW own ∧ va_K D vwCl (zTy k) s ∧ zInj a ∧ zX a s s.heap
abbrev zRoom (fr lo : Nat) : Room := { frames := fr, cells := 0, slots := 0, locals := lo }
/-- contracts: an int (or boolean, char) comes back, with what 'post' says of it and of the memory -/
def zI (l : Launch) (y : MethodName) (b : ByteArray) (n : Nat) (ret : FieldType) (fr lo : Nat) (D : va_G) (k : Nat → ClassId) (a : Nat → Nat → Nat) (As : List Value) (g : Mem) (post : Int32 → Mem → Prop) : Prop :=
  Met l y (.code y b n (some ret) :: GW) (zRoom fr lo) (va_Pc As (zPc D k a g)) (va_Qi post (fun g2 t => va_P D vwCl (zW k a g2) t.heap) (zA a)) 0 0 (zA a)
def zV (l : Launch) (y : MethodName) (b : ByteArray) (n : Nat) (fr lo : Nat) (D : va_G) (k : Nat → ClassId) (a : Nat → Nat → Nat) (As : List Value) (g : Mem) (post : Mem → Prop) : Prop :=
  Met l y (.code y b n none :: GW) (zRoom fr lo) (va_Pc As (zPc D k a g)) (va_Qv post (fun g2 t => va_P D vwCl (zW k a g2) t.heap) (zA a)) 0 0 (zA a)
def zR (l : Launch) (y : MethodName) (b : ByteArray) (n : Nat) (ret : FieldType) (fr lo : Nat) (D : va_G) (k : Nat → ClassId) (a : Nat → Nat → Nat) (As : List Value) (g : Mem) (ad : Nat) : Prop :=
  Met l y (.code y b n (some ret) :: GW) (zRoom fr lo) (va_Pc As (zPc D k a g)) (va_Qr (fun _ : Unit => True) (fun _ ra t => ra = ad ∧ va_P D vwCl (zW k a g) t.heap) (zA a)) 0 0 (zA a)
theorem zGood {y y' : MethodName} {b b' : ByteArray} {n n' : Nat} {r r' : Option FieldType} (h : Cond.code y' b' n' r' ∈ GW) : GoodIn GW (.code y' b' n' r' :: GW) := by
  intro w hw
  rcases List.mem_cons.mp hw with rfl | hw
  · exact ⟨h, good_of_word (gw_good _ h)⟩
  · exact ⟨hw, good_of_word (gw_good _ hw)⟩
section ZE
variable {l : Launch} {y : MethodName} {b : ByteArray} {n fr lo : Nat} {ret : FieldType} {D : va_G} {k : Nat → ClassId} {a : Nat → Nat → Nat} {As : List Value} {g : Mem} {own : String}
theorem zI_of {post : Int32 → Mem → Prop} (hy : plainName own = true) (ho : y.cls = own) (hn : (lg_sl As).length ≤ n)
    (body : ∀ {p : Program} {e : Env} {s : State} {m : MethodId} {args : Array Value} {below : List Frame} {meth : Method} {c : Code} (X : zC p m c b n s args own D k a) (Q : State → Prop)
      (hret : ∀ (r : Int32) (g' : Mem) (H : Heap) (locs : List Loc) (pc : Nat) (ls : Array Slot), narrow ret (.int r) = .int r → post r g' → zH D k a s g' H locs → decode b pc = .ok (.ireturn, 1) → W p l e (zRoom fr lo) s m args below meth c H locs 0 0 Q (F0 m pc ls [.int r]))
      (hH : zH D k a s g s.heap []) (ls : Array Slot) (hl : lv_has ls n (lv_args 0 As)), W p l e (zRoom fr lo) s m args below meth c s.heap [] 0 0 Q (F0 m 0 ls [])) : zI l y b n ret fr lo D k a As g post := by
  refine Met.ofW (cc := b) (maxL := n) (ret := some ret) (by rw [ho]; exact hy) rfl ?_
  intro p e s m args below meth c s₁ B hml hv
  obtain ⟨rfl, hP, hK, hI, hX⟩ := hv
  have hts := atoms_spec (ws := .code y b n (some ret) :: GW) B.pre
  have hown : s.vm.findClass own = some m.cls := by rw [← ho]; exact findClass_of_methodNamed B.named
  have hl := lv_entry As (n := n) hn
  rw [lg_entry_eq]
  have hlocks := B.notSynchronized
  exact body ⟨⟨B.exec, B.bytes, hml, hown, fun w hw => hts w (List.mem_cons_of_mem _ hw)⟩, hK, hI, hX⟩ _
    (fun r g' H locs pc ls h1 h2 h3 h4 => W.zret B.exec B.bytes B.returns h1 (fun t ht hW => ⟨⟨r, g', rfl, h2, (show va_P D vwCl (zW k a _) t.heap by rw [ht]; exact h3.1)⟩, h3.2.F ht⟩) h3.2.2.2 h4)
    ⟨hP, va_S.rf⟩ _ hl
theorem zV_of {post : Mem → Prop} (hy : plainName own = true) (ho : y.cls = own) (hn : (lg_sl As).length ≤ n)
    (body : ∀ {p : Program} {e : Env} {s : State} {m : MethodId} {args : Array Value} {below : List Frame} {meth : Method} {c : Code} (X : zC p m c b n s args own D k a) (Q : State → Prop)
      (hret : ∀ (g' : Mem) (H : Heap) (locs : List Loc) (pc : Nat) (ls : Array Slot), post g' → zH D k a s g' H locs → decode b pc = .ok (.return_, 1) → W p l e (zRoom fr lo) s m args below meth c H locs 0 0 Q (F0 m pc ls []))
      (hH : zH D k a s g s.heap []) (ls : Array Slot) (hl : lv_has ls n (lv_args 0 As)), W p l e (zRoom fr lo) s m args below meth c s.heap [] 0 0 Q (F0 m 0 ls [])) : zV l y b n fr lo D k a As g post := by
  refine Met.ofW (cc := b) (maxL := n) (ret := none) (by rw [ho]; exact hy) rfl ?_
  intro p e s m args below meth c s₁ B hml hv
  obtain ⟨rfl, hP, hK, hI, hX⟩ := hv
  have hts := atoms_spec (ws := .code y b n none :: GW) B.pre
  have hown : s.vm.findClass own = some m.cls := by rw [← ho]; exact findClass_of_methodNamed B.named
  have hl := lv_entry As (n := n) hn
  rw [lg_entry_eq]
  have hlocks := B.notSynchronized
  exact body ⟨⟨B.exec, B.bytes, hml, hown, fun w hw => hts w (List.mem_cons_of_mem _ hw)⟩, hK, hI, hX⟩ _
    (fun g' H locs pc ls h2 h3 h4 => W.vret B.exec B.bytes B.returns (fun t ht hW => ⟨⟨g', rfl, h2, (show va_P D vwCl (zW k a _) t.heap by rw [ht]; exact h3.1)⟩, h3.2.F ht⟩) h3.2.2.2 h4)
    ⟨hP, va_S.rf⟩ _ hl
theorem zR_of {ad : Nat} (hrt : ∃ C, ret = .object C) (hy : plainName own = true) (ho : y.cls = own) (hn : (lg_sl As).length ≤ n)
    (body : ∀ {p : Program} {e : Env} {s : State} {m : MethodId} {args : Array Value} {below : List Frame} {meth : Method} {c : Code} (X : zC p m c b n s args own D k a) (Q : State → Prop)
      (hret : ∀ (H : Heap) (locs : List Loc) (pc : Nat) (ls : Array Slot), zH D k a s g H locs → decode b pc = .ok (.areturn, 1) → W p l e (zRoom fr lo) s m args below meth c H locs 0 0 Q (F0 m pc ls [.ref ad]))
      (hH : zH D k a s g s.heap []) (ls : Array Slot) (hl : lv_has ls n (lv_args 0 As)), W p l e (zRoom fr lo) s m args below meth c s.heap [] 0 0 Q (F0 m 0 ls [])) : zR l y b n ret fr lo D k a As g ad := by
  refine Met.ofW (cc := b) (maxL := n) (ret := some ret) (by rw [ho]; exact hy) rfl ?_
  intro p e s m args below meth c s₁ B hml hv
  obtain ⟨rfl, hP, hK, hI, hX⟩ := hv
  have hts := atoms_spec (ws := .code y b n (some ret) :: GW) B.pre
  have hown : s.vm.findClass own = some m.cls := by rw [← ho]; exact findClass_of_methodNamed B.named
  have hl := lv_entry As (n := n) hn
  rw [lg_entry_eq]
  have hlocks := B.notSynchronized
  exact body ⟨⟨B.exec, B.bytes, hml, hown, fun w hw => hts w (List.mem_cons_of_mem _ hw)⟩, hK, hI, hX⟩ _
    (fun H locs pc ls h3 h4 => W.aret B.exec B.bytes B.returns (Or.inl hrt) (Or.inr ⟨_, rfl⟩) (fun t ht hW => ⟨⟨(), ad, rfl, trivial, rfl, by rw [ht]; exact h3.1⟩, h3.2.F ht⟩) h3.2.2.2 h4)
    ⟨hP, va_S.rf⟩ _ hl
end ZE
end
section
/-! rows over the memory -/
section ZR
variable {p : Program} {l : Launch} {e : Env} {R : Room} {s : State} {m : MethodId} {args : Array Value} {below : List Frame} {meth : Method} {c : Code} {H : Heap} {locs : List Loc} {cells slots : Nat} {Q : State → Prop}
variable {cc : ByteArray} {nL : Nat} {own : String} {pc : Nat} {ls : Array Slot} {rest : List Value} {D : va_G} {k : Nat → ClassId} {a : Nat → Nat → Nat} {g : Mem}
theorem z_get (X : zC p m c cc nL s args own D k a) (hH : zH D k a s g H locs) {i q ci idx : Nat} {fs : List Value} {C ref : String} {T : u_T} {N : Nat} (hq : q < 20) (h : 20 * i + q < 131) (hE : zE k a g i q = .inr (ci, fs)) (hcl : vwCl[ci]? = some (C, T, N)) (hin : ∀ w ∈ u_ws C T N, w ∈ GW) (f : Nat) (hf : f < N) (hr : (T f).1 = ref) (hl : .fieldLink own idx ref (T f).2.1 (T f).2.2.1 ∈ GW) {v : Value} (hv : fs[f]? = some v) (hdg : decode cc pc = .ok (.getfield idx, 3))
    (kk : W p l e R s m args below meth c H locs cells slots Q (F0 m (pc + 3) ls (v :: rest))) : W p l e R s m args below meth c H locs cells slots Q (F0 m pc ls (.ref (a i q) :: rest)) := by
  obtain ⟨⟨hx, hb, hml, hown, hts⟩, hK, hI, hX⟩ := X
  exact va_get hx hb hts hin hown hK hH.1 (20 * i + q) (zW_at hq h hE) hcl f hf (hts _ hl) (fun x hx => by rw [← hr]; exact hx) hv hdg kk
theorem z_put (X : zC p m c cc nL s args own D k a) (hH : zH D k a s g H locs) {i q ci idx : Nat} {fs : List Value} {C ref : String} {T : u_T} {N : Nat} (hq : q < 20) (h : 20 * i + q < 131) (hE : zE k a g i q = .inr (ci, fs)) (hcl : vwCl[ci]? = some (C, T, N)) (hin : ∀ w ∈ u_ws C T N, w ∈ GW) (ty0 : Nat → FieldType) (hty : ∀ k, k < N → parseFieldDescriptor (T k).2.2.1 = some (ty0 k)) (hnm : ∀ a, a < N → ∀ b, b < N → a ≠ b → (T a).2.1 ≠ (T b).2.1) (f : Nat) (hf : f < N) (hr : (T f).1 = ref) (hl : .fieldLink own idx ref (T f).2.1 (T f).2.2.1 ∈ GW) (hfin : (T f).2.2.2 = false) {ty : FieldType} {v : Value} (hd : parseFieldDescriptor (T f).2.2.1 = some ty) (hn : narrow ty v = v) (hfit : fits ty v = true) (hlen : f < fs.length)
    (g' : Mem) (hE' : zE k a g' i q = .inr (ci, fs.set f v)) (ho : ∀ j, j < 131 → j ≠ 20 * i + q → zE k a g' (j / 20) (j % 20) = zE k a g (j / 20) (j % 20))
    (hdg : decode cc pc = .ok (.putfield idx, 3))
    (kk : ∀ (H1 : Heap) (locs1 : List Loc), zH D k a s g' H1 locs1 → W p l e R s m args below meth c H1 locs1 cells slots Q (F0 m (pc + 3) ls rest)) : W p l e R s m args below meth c H locs cells slots Q (F0 m pc ls (v :: .ref (a i q) :: rest)) := by
  obtain ⟨⟨hx, hb, hml, hown, hts⟩, hK, hI, hX⟩ := X
  refine va_put hx hb hts hin ty0 hty hnm hown hK hH.1 (zD hI) hH.2 (20 * i + q) (zW_at hq h hE) hcl f hf (hts _ hl) (fun x hx => by rw [← hr]; exact hx) hfin hd hn hfit hlen hdg (fun H1 locs1 hP hD hS => ?_)
  rw [zW_set hq h hE' ho] at hP
  exact kk H1 locs1 ⟨hP, hS⟩
theorem z_vpin {j n : Nat} (h : j < n) (hn : n < 2 ^ 31) : vp_in (nI j) n := vp_in_nI h hn
theorem z_cl {j n : Nat} (h : j < n) (hn : n < 2 ^ 31) : (nI j).toNatClampNeg = j := nI_clamp (by omega)
/-- an int row read -/
theorem z_iald (X : zC p m c cc nL s args own D k a) (hH : zH D k a s g H locs) {i q n : Nat} {f : Nat → Int32} (hq : q < 20) (h : 20 * i + q < 131) (hE : zE k a g i q = .inl (k 1, n, .inl f)) (hn : n < 2 ^ 31) (j : Nat) (hj : j < n) (hdg : decode cc pc = .ok (.iaload, 1))
    (kk : W p l e R s m args below meth c H locs cells slots Q (F0 m (pc + 1) ls (.int (f j) :: rest))) : W p l e R s m args below meth c H locs cells slots Q (F0 m pc ls (.int (nI j) :: .ref (a i q) :: rest)) := by
  obtain ⟨⟨hx, hb, hml, hown, hts⟩, hK, hI, hX⟩ := X
  refine va_iald hx hb hK hH.1 (20 * i + q) 1 (zW_at hq h hE) rfl (z_vpin hj hn) hdg ?_
  rw [z_cl hj hn]
  exact kk
theorem z_cald (X : zC p m c cc nL s args own D k a) (hH : zH D k a s g H locs) {i q n : Nat} {f : Nat → Int32} (hq : q < 20) (h : 20 * i + q < 131) (hE : zE k a g i q = .inl (k 0, n, .inl f)) (hn : n < 2 ^ 31) (j : Nat) (hj : j < n) (hdg : decode cc pc = .ok (.caload, 1))
    (kk : W p l e R s m args below meth c H locs cells slots Q (F0 m (pc + 1) ls (.int (f j) :: rest))) : W p l e R s m args below meth c H locs cells slots Q (F0 m pc ls (.int (nI j) :: .ref (a i q) :: rest)) := by
  obtain ⟨⟨hx, hb, hml, hown, hts⟩, hK, hI, hX⟩ := X
  refine va_cald hx hb hK hH.1 (20 * i + q) 0 (zW_at hq h hE) rfl (z_vpin hj hn) hdg ?_
  rw [z_cl hj hn]
  exact kk
theorem z_aald (X : zC p m c cc nL s args own D k a) (hH : zH D k a s g H locs) {i q n t0 : Nat} {C : String} {f : Nat → Option Nat} (hq : q < 20) (h : 20 * i + q < 131) (hE : zE k a g i q = .inl (k t0, n, .inr (.inr (.inr (.inr f))))) (ht : (zTy k)[t0]? = some (k t0, .object C)) (hn : n < 2 ^ 31) (j : Nat) (hj : j < n) {ad : Nat} (hf : f j = some ad) (hdg : decode cc pc = .ok (.aaload, 1))
    (kk : W p l e R s m args below meth c H locs cells slots Q (F0 m (pc + 1) ls (.ref ad :: rest))) : W p l e R s m args below meth c H locs cells slots Q (F0 m pc ls (.int (nI j) :: .ref (a i q) :: rest)) := by
  obtain ⟨⟨hx, hb, hml, hown, hts⟩, hK, hI, hX⟩ := X
  refine va_aldq hx hb hK hH.1 (20 * i + q) t0 (zW_at hq h hE) ht (z_vpin hj hn) hdg ?_
  rw [z_cl hj hn, hf]
  exact kk
theorem z_iast (X : zC p m c cc nL s args own D k a) (hH : zH D k a s g H locs) {i q n : Nat} {f : Nat → Int32} (hq : q < 20) (h : 20 * i + q < 131) (hE : zE k a g i q = .inl (k 1, n, .inl f)) (hn : n < 2 ^ 31) (j : Nat) (hj : j < n) {x : Int32} (g' : Mem) (hE' : zE k a g' i q = .inl (k 1, n, .inl (upd f j x))) (ho : ∀ j, j < 131 → j ≠ 20 * i + q → zE k a g' (j / 20) (j % 20) = zE k a g (j / 20) (j % 20)) (hdg : decode cc pc = .ok (.iastore, 1))
    (kk : ∀ (H1 : Heap) (locs1 : List Loc), zH D k a s g' H1 locs1 → W p l e R s m args below meth c H1 locs1 cells slots Q (F0 m (pc + 1) ls rest)) : W p l e R s m args below meth c H locs cells slots Q (F0 m pc ls (.int x :: .int (nI j) :: .ref (a i q) :: rest)) := by
  obtain ⟨⟨hx, hb, hml, hown, hts⟩, hK, hI, hX⟩ := X
  refine va_iast hx hb hK hH.1 (zD hI) hH.2 (20 * i + q) 1 (zW_at hq h hE) rfl (z_vpin hj hn) hdg (fun H1 locs1 hP hD hS => ?_)
  rw [z_cl hj hn, zW_set hq h hE' ho] at hP
  exact kk H1 locs1 ⟨hP, hS⟩
theorem z_cast (X : zC p m c cc nL s args own D k a) (hH : zH D k a s g H locs) {i q n : Nat} {f : Nat → Int32} (hq : q < 20) (h : 20 * i + q < 131) (hE : zE k a g i q = .inl (k 0, n, .inl f)) (hn : n < 2 ^ 31) (j : Nat) (hj : j < n) {x : Int32} (hx : vp_nar .char x = x) (g' : Mem) (hE' : zE k a g' i q = .inl (k 0, n, .inl (upd f j x))) (ho : ∀ j, j < 131 → j ≠ 20 * i + q → zE k a g' (j / 20) (j % 20) = zE k a g (j / 20) (j % 20)) (hdg : decode cc pc = .ok (.castore, 1))
    (kk : ∀ (H1 : Heap) (locs1 : List Loc), zH D k a s g' H1 locs1 → W p l e R s m args below meth c H1 locs1 cells slots Q (F0 m (pc + 1) ls rest)) : W p l e R s m args below meth c H locs cells slots Q (F0 m pc ls (.int x :: .int (nI j) :: .ref (a i q) :: rest)) := by
  obtain ⟨⟨hx', hb, hml, hown, hts⟩, hK, hI, hX⟩ := X
  refine va_cast hx' hb hK hH.1 (zD hI) hH.2 (20 * i + q) 0 (zW_at hq h hE) rfl (z_vpin hj hn) hdg (fun H1 locs1 hP hD hS => ?_)
  rw [z_cl hj hn, hx, zW_set hq h hE' ho] at hP
  exact kk H1 locs1 ⟨hP, hS⟩
theorem z_recv (X : zC p m c cc nL s args own D k a) (hH : zH D k a s g H locs) {i q ci : Nat} {fs : List Value} {C : String} {T : u_T} {N : Nat} (hq : q < 20) (h : 20 * i + q < 131) (hE : zE k a g i q = .inr (ci, fs)) (hcl : vwCl[ci]? = some (C, T, N)) : ∃ cell : Cell, H[a i q]? = some cell ∧ cell.vm.isStatics = false ∧ s.vm.findClass C = some cell.cls :=
  va_recv X.2.1 hH.1 hcl (zW_at hq h hE)
/-! what a write leaves alone -/
theorem zE_st {g g' : Mem} {i : Nat} (hi : i < 6) (hu : ∀ j, j ≠ i → g' j = g j) {q : Nat} (hs : ∀ r, r < 20 → r ≠ q → zSt k (a i) (g' i) r = zSt k (a i) (g i) r) : ∀ j, j < 131 → j ≠ 20 * i + q → zE k a g' (j / 20) (j % 20) = zE k a g (j / 20) (j % 20) := by
  intro j hj hne
  unfold zE
  by_cases h6 : j / 20 < 6
  · rw [if_pos h6, if_pos h6]
    by_cases h1 : j / 20 = i
    · rw [h1]
      exact hs _ (by omega) (by omega)
    · rw [hu _ h1]
  · rw [if_neg h6, if_neg h6]
    unfold zMi
    simp only [hu 6 (by omega), hu 7 (by omega), hu 8 (by omega), hu 9 (by omega), hu 17 (by omega), hu 18 (by omega), hu 19 (by omega)]
    have e : (fun j => if j < 1120 then g' (10 + j / 160) (j % 160) else 0) = (fun j => if j < 1120 then g (10 + j / 160) (j % 160) else 0) := by
      funext z
      rw [hu _ (by omega)]
    rw [e]
theorem zE_mi {g g' : Mem} {q : Nat} (hu : ∀ j, j < 6 → g' j = g j) (hm : ∀ r, r < 11 → r ≠ q → zMi k a g' r = zMi k a g r) : ∀ j, j < 131 → j ≠ 20 * 6 + q → zE k a g' (j / 20) (j % 20) = zE k a g (j / 20) (j % 20) := by
  intro j hj hne
  unfold zE
  by_cases h6 : j / 20 < 6
  · rw [if_pos h6, if_pos h6, hu _ h6]
  · rw [if_neg h6, if_neg h6]
    exact hm _ (by omega) (by omega)
/-- whose cell a slot of a state's row stands in -/
def zOwn (j : Nat) : Nat := if j < 4 then 4 + j else if j < 8 then j else if j < 13 then 3 else if j < 145 then 8 + (j - 13) / 11 else if j < 152 then 0 else if j < 156 then j - 148 else j - 152
theorem zo_0 {j : Nat} (h1 : 145 ≤ j) (h2 : j ≤ 151) : zOwn j = 0 := by
  unfold zOwn
  rw [if_neg (by omega), if_neg (by omega), if_neg (by omega), if_neg (by omega), if_pos (by omega)]
theorem zo_3 {j : Nat} (h1 : 8 ≤ j) (h2 : j < 13) : zOwn j = 3 := by
  unfold zOwn
  rw [if_neg (by omega), if_neg (by omega), if_pos (by omega)]
theorem zo_a {t : Nat} (h : t < 4) : zOwn t = 4 + t := by
  unfold zOwn
  rw [if_pos (by omega)]
theorem zo_b {t : Nat} (h : t < 4) : zOwn (4 + t) = 4 + t := by
  unfold zOwn
  rw [if_neg (by omega), if_pos (by omega)]
theorem zo_c {t : Nat} (h : t < 4) : zOwn (152 + t) = 4 + t := by
  unfold zOwn
  rw [if_neg (by omega), if_neg (by omega), if_neg (by omega), if_neg (by omega), if_neg (by omega), if_pos (by omega)]
  omega
theorem zo_d {t : Nat} (h : t < 4) : zOwn (156 + t) = 4 + t := by
  unfold zOwn
  rw [if_neg (by omega), if_neg (by omega), if_neg (by omega), if_neg (by omega), if_neg (by omega), if_neg (by omega)]
  omega
theorem zo_p {s o : Nat} (h : s < 12) (ho : o < 11) : zOwn (13 + 11 * s + o) = 8 + s := by
  unfold zOwn
  rw [if_neg (by omega), if_neg (by omega), if_neg (by omega), if_pos (by omega)]
  omega
theorem zSt_o {b : Nat → Nat} {v : Nat → Int32} {j r : Nat} {x : Int32} (hr : r < 20) (hne : r ≠ zOwn j) : zSt k b (upd v j x) r = zSt k b v r := by
  have e : ∀ i, zOwn i = r → upd v j x i = v i := fun i hi => zu_n v x (fun q => hne (by rw [← q]; exact hi.symm))
  unfold zSt
  by_cases h0 : r = 0
  · subst h0
    rw [if_pos rfl, if_pos rfl, e 145 (zo_0 (by omega) (by omega)), e 146 (zo_0 (by omega) (by omega)), e 147 (zo_0 (by omega) (by omega)), e 148 (zo_0 (by omega) (by omega)), e 149 (zo_0 (by omega) (by omega)), e 150 (zo_0 (by omega) (by omega)), e 151 (zo_0 (by omega) (by omega))]
  · rw [if_neg h0, if_neg h0]
    by_cases h1 : r = 1
    · subst h1
      rfl
    · rw [if_neg h1, if_neg h1]
      by_cases h2 : r = 2
      · subst h2
        rfl
      · rw [if_neg h2, if_neg h2]
        by_cases h3 : r = 3
        · subst h3
          have e2 : (fun i => if i < 5 then upd v j x (8 + i) else 0) = (fun i => if i < 5 then v (8 + i) else 0) := by
            funext i
            by_cases hi : i < 5
            · rw [if_pos hi, if_pos hi, e _ (zo_3 (by omega) (by omega))]
            · rw [if_neg hi, if_neg hi]
          rw [if_pos rfl, if_pos rfl, e2]
        · rw [if_neg h3, if_neg h3]
          by_cases h4 : r < 8
          · have ht : r - 4 < 4 := by omega
            rw [if_pos h4, if_pos h4, e (r - 4) ((zo_a ht).trans (by omega)), e (4 + (r - 4)) ((zo_b ht).trans (by omega)), e (152 + (r - 4)) ((zo_c ht).trans (by omega)), e (156 + (r - 4)) ((zo_d ht).trans (by omega))]
          · have ht : r - 8 < 12 := by omega
            have ep : ∀ o, o < 11 → upd v j x (13 + 11 * (r - 8) + o) = v (13 + 11 * (r - 8) + o) := fun o ho => e _ ((zo_p ht ho).trans (by omega))
            rw [if_neg h4, if_neg h4, ep 0 (by omega), ep 1 (by omega), ep 2 (by omega), ep 3 (by omega), ep 4 (by omega), ep 5 (by omega), ep 6 (by omega), ep 7 (by omega), ep 8 (by omega), ep 9 (by omega), ep 10 (by omega)]
theorem z_ho {i j : Nat} {x : Int32} (hi : i < 6) {q : Nat} (hq : zOwn j = q) : ∀ r, r < 131 → r ≠ 20 * i + q → zE k a (zUp g i (upd (g i) j x)) (r / 20) (r % 20) = zE k a g (r / 20) (r % 20) :=
  zE_st hi (fun r hr => zUp_n g _ hr) (fun r hr hne => by rw [zUp_s]; exact zSt_o hr (by rw [hq]; exact hne))
theorem zE_plan {i s : Nat} (hi : i < 6) : zE k a g i (8 + s) = .inr (1, [.int (g i (13 + 11 * s + 0)), .int (g i (13 + 11 * s + 8)), .int (g i (13 + 11 * s + 1)), .int (g i (13 + 11 * s + 2)), .int (g i (13 + 11 * s + 3)), .int (g i (13 + 11 * s + 4)), .int (g i (13 + 11 * s + 5)), .int (g i (13 + 11 * s + 10)), .int (g i (13 + 11 * s + 9)), .int (g i (13 + 11 * s + 6)), .int (g i (13 + 11 * s + 7))]) := by
  unfold zE zSt
  rw [if_pos hi, if_neg (by omega), if_neg (by omega), if_neg (by omega), if_neg (by omega), if_neg (by omega), show 8 + s - 8 = s by omega]
theorem zE_table {i t : Nat} (hi : i < 6) (ht : t < 4) : zE k a g i (4 + t) = .inr (4, [.int (g i t), .int (g i (4 + t)), .int (g i (152 + t)), .int (g i (156 + t))]) := by
  unfold zE zSt
  rw [if_pos hi, if_neg (by omega), if_neg (by omega), if_neg (by omega), if_neg (by omega), if_pos (by omega), show 4 + t - 4 = t by omega]
theorem zE_state {i : Nat} (hi : i < 6) : zE k a g i 0 = .inr (3, [.ref (a i 1), .ref (a i 2), .ref (a i 3), .int (g i 145), .int (g i 146), .int (g i 147), .int (g i 148), .int (g i 149), .int (g i 150), .int (g i 151)]) := by
  unfold zE zSt
  rw [if_pos hi, if_pos rfl]
theorem zE_tabs {i : Nat} (hi : i < 6) : zE k a g i 1 = .inl (k 2, 4, .inr (.inr (.inr (.inr (fun j => some (a i (4 + j))))))) := by
  unfold zE zSt
  rw [if_pos hi, if_neg (by omega), if_pos rfl]
theorem zE_plans {i : Nat} (hi : i < 6) : zE k a g i 2 = .inl (k 3, 12, .inr (.inr (.inr (.inr (fun j => some (a i (8 + j))))))) := by
  unfold zE zSt
  rw [if_pos hi, if_neg (by omega), if_neg (by omega), if_pos rfl]
theorem zE_sets {i : Nat} (hi : i < 6) : zE k a g i 3 = .inl (k 1, 5, .inl (fun j => if j < 5 then g i (8 + j) else 0)) := by
  unfold zE zSt
  rw [if_pos hi, if_neg (by omega), if_neg (by omega), if_neg (by omega), if_pos rfl]
theorem zE_m {q : Nat} : zE k a g 6 q = zMi k a g q := by
  unfold zE
  rw [if_neg (by omega)]
theorem zMi_9 {g g' : Mem} (h : ∀ j, 10 ≤ j → j < 17 → g' j = g j) : zMi k a g' 9 = zMi k a g 9 := by
  have e : (fun j => if j < 1120 then g' (10 + j / 160) (j % 160) else 0) = (fun j => if j < 1120 then g (10 + j / 160) (j % 160) else 0) := by
    funext j
    by_cases hj : j < 1120
    · rw [if_pos hj, if_pos hj, h _ (by omega) (by omega)]
    · rw [if_neg hj, if_neg hj]
  have h9 : ∀ g : Mem, zMi k a g 9 = .inl (k 1, 1120, .inl (fun j => if j < 1120 then g (10 + j / 160) (j % 160) else 0)) := fun _ => rfl
  rw [h9, h9, e]

theorem gf_X1_kept (X : zC p m c cc nL s args own D k a) (hH : zH D k a s g H locs) {i t : Nat} (hi : i < 6) (ht : t < 12) {idx : Nat} (hl : .fieldLink own idx "KeptPlans$Plan" "kept" "Z" ∈ GW) (hdg : decode cc pc = .ok (.getfield idx, 3))
    (kk : W p l e R s m args below meth c H locs cells slots Q (F0 m (pc + 3) ls (.int (g i (13 + 11 * t + 0)) :: rest))) : W p l e R s m args below meth c H locs cells slots Q (F0 m pc ls (.ref (a i (8 + t)) :: rest)) :=
  z_get X hH (C := RX1) (T := TX1) (N := 11) (by omega) (by omega) (zE_plan hi) rfl inX1 0 (by omega) rfl hl rfl hdg kk
theorem pf_X1_kept (X : zC p m c cc nL s args own D k a) (hH : zH D k a s g H locs) {i t : Nat} (hi : i < 6) (ht : t < 12) {idx : Nat} {x : Int32} (hx : x = 0 ∨ x = 1) (hl : .fieldLink own idx "KeptPlans$Plan" "kept" "Z" ∈ GW) (hdg : decode cc pc = .ok (.putfield idx, 3))
    (kk : ∀ (H1 : Heap) (locs1 : List Loc), zH D k a s (zUp g i (upd (g i) (13 + 11 * t + 0) x)) H1 locs1 → W p l e R s m args below meth c H1 locs1 cells slots Q (F0 m (pc + 3) ls rest)) : W p l e R s m args below meth c H locs cells slots Q (F0 m pc ls (.int x :: .ref (a i (8 + t)) :: rest)) :=
  z_put X hH (C := RX1) (T := TX1) (N := 11) (by omega) (by omega) (zE_plan hi) rfl inX1 tyX1 tyX1_ok nmX1 0 (by omega) rfl hl rfl (ty := .boolean) (by decide +kernel) (by rcases hx with rfl | rfl <;> rfl) (by rcases hx with rfl | rfl <;> rfl) (by simp [zMi]) (zUp g i (upd (g i) (13 + 11 * t + 0) x)) (by rw [zE_plan hi]; simp [zUp, upd]) (z_ho hi (zo_p ht (by omega))) hdg kk
theorem gf_X1_pinned (X : zC p m c cc nL s args own D k a) (hH : zH D k a s g H locs) {i t : Nat} (hi : i < 6) (ht : t < 12) {idx : Nat} (hl : .fieldLink own idx "KeptPlans$Plan" "pinned" "Z" ∈ GW) (hdg : decode cc pc = .ok (.getfield idx, 3))
    (kk : W p l e R s m args below meth c H locs cells slots Q (F0 m (pc + 3) ls (.int (g i (13 + 11 * t + 8)) :: rest))) : W p l e R s m args below meth c H locs cells slots Q (F0 m pc ls (.ref (a i (8 + t)) :: rest)) :=
  z_get X hH (C := RX1) (T := TX1) (N := 11) (by omega) (by omega) (zE_plan hi) rfl inX1 1 (by omega) rfl hl rfl hdg kk
theorem pf_X1_pinned (X : zC p m c cc nL s args own D k a) (hH : zH D k a s g H locs) {i t : Nat} (hi : i < 6) (ht : t < 12) {idx : Nat} {x : Int32} (hx : x = 0 ∨ x = 1) (hl : .fieldLink own idx "KeptPlans$Plan" "pinned" "Z" ∈ GW) (hdg : decode cc pc = .ok (.putfield idx, 3))
    (kk : ∀ (H1 : Heap) (locs1 : List Loc), zH D k a s (zUp g i (upd (g i) (13 + 11 * t + 8) x)) H1 locs1 → W p l e R s m args below meth c H1 locs1 cells slots Q (F0 m (pc + 3) ls rest)) : W p l e R s m args below meth c H locs cells slots Q (F0 m pc ls (.int x :: .ref (a i (8 + t)) :: rest)) :=
  z_put X hH (C := RX1) (T := TX1) (N := 11) (by omega) (by omega) (zE_plan hi) rfl inX1 tyX1 tyX1_ok nmX1 1 (by omega) rfl hl rfl (ty := .boolean) (by decide +kernel) (by rcases hx with rfl | rfl <;> rfl) (by rcases hx with rfl | rfl <;> rfl) (by simp [zMi]) (zUp g i (upd (g i) (13 + 11 * t + 8) x)) (by rw [zE_plan hi]; simp [zUp, upd]) (z_ho hi (zo_p ht (by omega))) hdg kk
theorem gf_X1_way (X : zC p m c cc nL s args own D k a) (hH : zH D k a s g H locs) {i t : Nat} (hi : i < 6) (ht : t < 12) {idx : Nat} (hl : .fieldLink own idx "KeptPlans$Plan" "way" "I" ∈ GW) (hdg : decode cc pc = .ok (.getfield idx, 3))
    (kk : W p l e R s m args below meth c H locs cells slots Q (F0 m (pc + 3) ls (.int (g i (13 + 11 * t + 1)) :: rest))) : W p l e R s m args below meth c H locs cells slots Q (F0 m pc ls (.ref (a i (8 + t)) :: rest)) :=
  z_get X hH (C := RX1) (T := TX1) (N := 11) (by omega) (by omega) (zE_plan hi) rfl inX1 2 (by omega) rfl hl rfl hdg kk
theorem pf_X1_way (X : zC p m c cc nL s args own D k a) (hH : zH D k a s g H locs) {i t : Nat} (hi : i < 6) (ht : t < 12) {idx : Nat} {x : Int32}  (hl : .fieldLink own idx "KeptPlans$Plan" "way" "I" ∈ GW) (hdg : decode cc pc = .ok (.putfield idx, 3))
    (kk : ∀ (H1 : Heap) (locs1 : List Loc), zH D k a s (zUp g i (upd (g i) (13 + 11 * t + 1) x)) H1 locs1 → W p l e R s m args below meth c H1 locs1 cells slots Q (F0 m (pc + 3) ls rest)) : W p l e R s m args below meth c H locs cells slots Q (F0 m pc ls (.int x :: .ref (a i (8 + t)) :: rest)) :=
  z_put X hH (C := RX1) (T := TX1) (N := 11) (by omega) (by omega) (zE_plan hi) rfl inX1 tyX1 tyX1_ok nmX1 2 (by omega) rfl hl rfl (ty := .int) (by decide +kernel) rfl rfl (by simp [zMi]) (zUp g i (upd (g i) (13 + 11 * t + 1) x)) (by rw [zE_plan hi]; simp [zUp, upd]) (z_ho hi (zo_p ht (by omega))) hdg kk
theorem gf_X1_least (X : zC p m c cc nL s args own D k a) (hH : zH D k a s g H locs) {i t : Nat} (hi : i < 6) (ht : t < 12) {idx : Nat} (hl : .fieldLink own idx "KeptPlans$Plan" "least" "I" ∈ GW) (hdg : decode cc pc = .ok (.getfield idx, 3))
    (kk : W p l e R s m args below meth c H locs cells slots Q (F0 m (pc + 3) ls (.int (g i (13 + 11 * t + 2)) :: rest))) : W p l e R s m args below meth c H locs cells slots Q (F0 m pc ls (.ref (a i (8 + t)) :: rest)) :=
  z_get X hH (C := RX1) (T := TX1) (N := 11) (by omega) (by omega) (zE_plan hi) rfl inX1 3 (by omega) rfl hl rfl hdg kk
theorem pf_X1_least (X : zC p m c cc nL s args own D k a) (hH : zH D k a s g H locs) {i t : Nat} (hi : i < 6) (ht : t < 12) {idx : Nat} {x : Int32}  (hl : .fieldLink own idx "KeptPlans$Plan" "least" "I" ∈ GW) (hdg : decode cc pc = .ok (.putfield idx, 3))
    (kk : ∀ (H1 : Heap) (locs1 : List Loc), zH D k a s (zUp g i (upd (g i) (13 + 11 * t + 2) x)) H1 locs1 → W p l e R s m args below meth c H1 locs1 cells slots Q (F0 m (pc + 3) ls rest)) : W p l e R s m args below meth c H locs cells slots Q (F0 m pc ls (.int x :: .ref (a i (8 + t)) :: rest)) :=
  z_put X hH (C := RX1) (T := TX1) (N := 11) (by omega) (by omega) (zE_plan hi) rfl inX1 tyX1 tyX1_ok nmX1 3 (by omega) rfl hl rfl (ty := .int) (by decide +kernel) rfl rfl (by simp [zMi]) (zUp g i (upd (g i) (13 + 11 * t + 2) x)) (by rw [zE_plan hi]; simp [zUp, upd]) (z_ho hi (zo_p ht (by omega))) hdg kk
theorem gf_X1_most (X : zC p m c cc nL s args own D k a) (hH : zH D k a s g H locs) {i t : Nat} (hi : i < 6) (ht : t < 12) {idx : Nat} (hl : .fieldLink own idx "KeptPlans$Plan" "most" "I" ∈ GW) (hdg : decode cc pc = .ok (.getfield idx, 3))
    (kk : W p l e R s m args below meth c H locs cells slots Q (F0 m (pc + 3) ls (.int (g i (13 + 11 * t + 3)) :: rest))) : W p l e R s m args below meth c H locs cells slots Q (F0 m pc ls (.ref (a i (8 + t)) :: rest)) :=
  z_get X hH (C := RX1) (T := TX1) (N := 11) (by omega) (by omega) (zE_plan hi) rfl inX1 4 (by omega) rfl hl rfl hdg kk
theorem pf_X1_most (X : zC p m c cc nL s args own D k a) (hH : zH D k a s g H locs) {i t : Nat} (hi : i < 6) (ht : t < 12) {idx : Nat} {x : Int32}  (hl : .fieldLink own idx "KeptPlans$Plan" "most" "I" ∈ GW) (hdg : decode cc pc = .ok (.putfield idx, 3))
    (kk : ∀ (H1 : Heap) (locs1 : List Loc), zH D k a s (zUp g i (upd (g i) (13 + 11 * t + 3) x)) H1 locs1 → W p l e R s m args below meth c H1 locs1 cells slots Q (F0 m (pc + 3) ls rest)) : W p l e R s m args below meth c H locs cells slots Q (F0 m pc ls (.int x :: .ref (a i (8 + t)) :: rest)) :=
  z_put X hH (C := RX1) (T := TX1) (N := 11) (by omega) (by omega) (zE_plan hi) rfl inX1 tyX1 tyX1_ok nmX1 4 (by omega) rfl hl rfl (ty := .int) (by decide +kernel) rfl rfl (by simp [zMi]) (zUp g i (upd (g i) (13 + 11 * t + 3) x)) (by rw [zE_plan hi]; simp [zUp, upd]) (z_ho hi (zo_p ht (by omega))) hdg kk
theorem gf_X1_number (X : zC p m c cc nL s args own D k a) (hH : zH D k a s g H locs) {i t : Nat} (hi : i < 6) (ht : t < 12) {idx : Nat} (hl : .fieldLink own idx "KeptPlans$Plan" "number" "I" ∈ GW) (hdg : decode cc pc = .ok (.getfield idx, 3))
    (kk : W p l e R s m args below meth c H locs cells slots Q (F0 m (pc + 3) ls (.int (g i (13 + 11 * t + 4)) :: rest))) : W p l e R s m args below meth c H locs cells slots Q (F0 m pc ls (.ref (a i (8 + t)) :: rest)) :=
  z_get X hH (C := RX1) (T := TX1) (N := 11) (by omega) (by omega) (zE_plan hi) rfl inX1 5 (by omega) rfl hl rfl hdg kk
theorem pf_X1_number (X : zC p m c cc nL s args own D k a) (hH : zH D k a s g H locs) {i t : Nat} (hi : i < 6) (ht : t < 12) {idx : Nat} {x : Int32}  (hl : .fieldLink own idx "KeptPlans$Plan" "number" "I" ∈ GW) (hdg : decode cc pc = .ok (.putfield idx, 3))
    (kk : ∀ (H1 : Heap) (locs1 : List Loc), zH D k a s (zUp g i (upd (g i) (13 + 11 * t + 4) x)) H1 locs1 → W p l e R s m args below meth c H1 locs1 cells slots Q (F0 m (pc + 3) ls rest)) : W p l e R s m args below meth c H locs cells slots Q (F0 m pc ls (.int x :: .ref (a i (8 + t)) :: rest)) :=
  z_put X hH (C := RX1) (T := TX1) (N := 11) (by omega) (by omega) (zE_plan hi) rfl inX1 tyX1 tyX1_ok nmX1 5 (by omega) rfl hl rfl (ty := .int) (by decide +kernel) rfl rfl (by simp [zMi]) (zUp g i (upd (g i) (13 + 11 * t + 4) x)) (by rw [zE_plan hi]; simp [zUp, upd]) (z_ho hi (zo_p ht (by omega))) hdg kk
theorem gf_X1_guess (X : zC p m c cc nL s args own D k a) (hH : zH D k a s g H locs) {i t : Nat} (hi : i < 6) (ht : t < 12) {idx : Nat} (hl : .fieldLink own idx "KeptPlans$Plan" "guess" "I" ∈ GW) (hdg : decode cc pc = .ok (.getfield idx, 3))
    (kk : W p l e R s m args below meth c H locs cells slots Q (F0 m (pc + 3) ls (.int (g i (13 + 11 * t + 5)) :: rest))) : W p l e R s m args below meth c H locs cells slots Q (F0 m pc ls (.ref (a i (8 + t)) :: rest)) :=
  z_get X hH (C := RX1) (T := TX1) (N := 11) (by omega) (by omega) (zE_plan hi) rfl inX1 6 (by omega) rfl hl rfl hdg kk
theorem pf_X1_guess (X : zC p m c cc nL s args own D k a) (hH : zH D k a s g H locs) {i t : Nat} (hi : i < 6) (ht : t < 12) {idx : Nat} {x : Int32}  (hl : .fieldLink own idx "KeptPlans$Plan" "guess" "I" ∈ GW) (hdg : decode cc pc = .ok (.putfield idx, 3))
    (kk : ∀ (H1 : Heap) (locs1 : List Loc), zH D k a s (zUp g i (upd (g i) (13 + 11 * t + 5) x)) H1 locs1 → W p l e R s m args below meth c H1 locs1 cells slots Q (F0 m (pc + 3) ls rest)) : W p l e R s m args below meth c H locs cells slots Q (F0 m pc ls (.int x :: .ref (a i (8 + t)) :: rest)) :=
  z_put X hH (C := RX1) (T := TX1) (N := 11) (by omega) (by omega) (zE_plan hi) rfl inX1 tyX1 tyX1_ok nmX1 6 (by omega) rfl hl rfl (ty := .int) (by decide +kernel) rfl rfl (by simp [zMi]) (zUp g i (upd (g i) (13 + 11 * t + 5) x)) (by rw [zE_plan hi]; simp [zUp, upd]) (z_ho hi (zo_p ht (by omega))) hdg kk
theorem gf_X1_rows (X : zC p m c cc nL s args own D k a) (hH : zH D k a s g H locs) {i t : Nat} (hi : i < 6) (ht : t < 12) {idx : Nat} (hl : .fieldLink own idx "KeptPlans$Plan" "rows" "I" ∈ GW) (hdg : decode cc pc = .ok (.getfield idx, 3))
    (kk : W p l e R s m args below meth c H locs cells slots Q (F0 m (pc + 3) ls (.int (g i (13 + 11 * t + 10)) :: rest))) : W p l e R s m args below meth c H locs cells slots Q (F0 m pc ls (.ref (a i (8 + t)) :: rest)) :=
  z_get X hH (C := RX1) (T := TX1) (N := 11) (by omega) (by omega) (zE_plan hi) rfl inX1 7 (by omega) rfl hl rfl hdg kk
theorem pf_X1_rows (X : zC p m c cc nL s args own D k a) (hH : zH D k a s g H locs) {i t : Nat} (hi : i < 6) (ht : t < 12) {idx : Nat} {x : Int32}  (hl : .fieldLink own idx "KeptPlans$Plan" "rows" "I" ∈ GW) (hdg : decode cc pc = .ok (.putfield idx, 3))
    (kk : ∀ (H1 : Heap) (locs1 : List Loc), zH D k a s (zUp g i (upd (g i) (13 + 11 * t + 10) x)) H1 locs1 → W p l e R s m args below meth c H1 locs1 cells slots Q (F0 m (pc + 3) ls rest)) : W p l e R s m args below meth c H locs cells slots Q (F0 m pc ls (.int x :: .ref (a i (8 + t)) :: rest)) :=
  z_put X hH (C := RX1) (T := TX1) (N := 11) (by omega) (by omega) (zE_plan hi) rfl inX1 tyX1 tyX1_ok nmX1 7 (by omega) rfl hl rfl (ty := .int) (by decide +kernel) rfl rfl (by simp [zMi]) (zUp g i (upd (g i) (13 + 11 * t + 10) x)) (by rw [zE_plan hi]; simp [zUp, upd]) (z_ho hi (zo_p ht (by omega))) hdg kk
theorem gf_X1_uses (X : zC p m c cc nL s args own D k a) (hH : zH D k a s g H locs) {i t : Nat} (hi : i < 6) (ht : t < 12) {idx : Nat} (hl : .fieldLink own idx "KeptPlans$Plan" "uses" "I" ∈ GW) (hdg : decode cc pc = .ok (.getfield idx, 3))
    (kk : W p l e R s m args below meth c H locs cells slots Q (F0 m (pc + 3) ls (.int (g i (13 + 11 * t + 9)) :: rest))) : W p l e R s m args below meth c H locs cells slots Q (F0 m pc ls (.ref (a i (8 + t)) :: rest)) :=
  z_get X hH (C := RX1) (T := TX1) (N := 11) (by omega) (by omega) (zE_plan hi) rfl inX1 8 (by omega) rfl hl rfl hdg kk
theorem pf_X1_uses (X : zC p m c cc nL s args own D k a) (hH : zH D k a s g H locs) {i t : Nat} (hi : i < 6) (ht : t < 12) {idx : Nat} {x : Int32}  (hl : .fieldLink own idx "KeptPlans$Plan" "uses" "I" ∈ GW) (hdg : decode cc pc = .ok (.putfield idx, 3))
    (kk : ∀ (H1 : Heap) (locs1 : List Loc), zH D k a s (zUp g i (upd (g i) (13 + 11 * t + 9) x)) H1 locs1 → W p l e R s m args below meth c H1 locs1 cells slots Q (F0 m (pc + 3) ls rest)) : W p l e R s m args below meth c H locs cells slots Q (F0 m pc ls (.int x :: .ref (a i (8 + t)) :: rest)) :=
  z_put X hH (C := RX1) (T := TX1) (N := 11) (by omega) (by omega) (zE_plan hi) rfl inX1 tyX1 tyX1_ok nmX1 8 (by omega) rfl hl rfl (ty := .int) (by decide +kernel) rfl rfl (by simp [zMi]) (zUp g i (upd (g i) (13 + 11 * t + 9) x)) (by rw [zE_plan hi]; simp [zUp, upd]) (z_ho hi (zo_p ht (by omega))) hdg kk
theorem gf_X1_madeAt (X : zC p m c cc nL s args own D k a) (hH : zH D k a s g H locs) {i t : Nat} (hi : i < 6) (ht : t < 12) {idx : Nat} (hl : .fieldLink own idx "KeptPlans$Plan" "madeAt" "I" ∈ GW) (hdg : decode cc pc = .ok (.getfield idx, 3))
    (kk : W p l e R s m args below meth c H locs cells slots Q (F0 m (pc + 3) ls (.int (g i (13 + 11 * t + 6)) :: rest))) : W p l e R s m args below meth c H locs cells slots Q (F0 m pc ls (.ref (a i (8 + t)) :: rest)) :=
  z_get X hH (C := RX1) (T := TX1) (N := 11) (by omega) (by omega) (zE_plan hi) rfl inX1 9 (by omega) rfl hl rfl hdg kk
theorem pf_X1_madeAt (X : zC p m c cc nL s args own D k a) (hH : zH D k a s g H locs) {i t : Nat} (hi : i < 6) (ht : t < 12) {idx : Nat} {x : Int32}  (hl : .fieldLink own idx "KeptPlans$Plan" "madeAt" "I" ∈ GW) (hdg : decode cc pc = .ok (.putfield idx, 3))
    (kk : ∀ (H1 : Heap) (locs1 : List Loc), zH D k a s (zUp g i (upd (g i) (13 + 11 * t + 6) x)) H1 locs1 → W p l e R s m args below meth c H1 locs1 cells slots Q (F0 m (pc + 3) ls rest)) : W p l e R s m args below meth c H locs cells slots Q (F0 m pc ls (.int x :: .ref (a i (8 + t)) :: rest)) :=
  z_put X hH (C := RX1) (T := TX1) (N := 11) (by omega) (by omega) (zE_plan hi) rfl inX1 tyX1 tyX1_ok nmX1 9 (by omega) rfl hl rfl (ty := .int) (by decide +kernel) rfl rfl (by simp [zMi]) (zUp g i (upd (g i) (13 + 11 * t + 6) x)) (by rw [zE_plan hi]; simp [zUp, upd]) (z_ho hi (zo_p ht (by omega))) hdg kk
theorem gf_X1_usedAt (X : zC p m c cc nL s args own D k a) (hH : zH D k a s g H locs) {i t : Nat} (hi : i < 6) (ht : t < 12) {idx : Nat} (hl : .fieldLink own idx "KeptPlans$Plan" "usedAt" "I" ∈ GW) (hdg : decode cc pc = .ok (.getfield idx, 3))
    (kk : W p l e R s m args below meth c H locs cells slots Q (F0 m (pc + 3) ls (.int (g i (13 + 11 * t + 7)) :: rest))) : W p l e R s m args below meth c H locs cells slots Q (F0 m pc ls (.ref (a i (8 + t)) :: rest)) :=
  z_get X hH (C := RX1) (T := TX1) (N := 11) (by omega) (by omega) (zE_plan hi) rfl inX1 10 (by omega) rfl hl rfl hdg kk
theorem pf_X1_usedAt (X : zC p m c cc nL s args own D k a) (hH : zH D k a s g H locs) {i t : Nat} (hi : i < 6) (ht : t < 12) {idx : Nat} {x : Int32}  (hl : .fieldLink own idx "KeptPlans$Plan" "usedAt" "I" ∈ GW) (hdg : decode cc pc = .ok (.putfield idx, 3))
    (kk : ∀ (H1 : Heap) (locs1 : List Loc), zH D k a s (zUp g i (upd (g i) (13 + 11 * t + 7) x)) H1 locs1 → W p l e R s m args below meth c H1 locs1 cells slots Q (F0 m (pc + 3) ls rest)) : W p l e R s m args below meth c H locs cells slots Q (F0 m pc ls (.int x :: .ref (a i (8 + t)) :: rest)) :=
  z_put X hH (C := RX1) (T := TX1) (N := 11) (by omega) (by omega) (zE_plan hi) rfl inX1 tyX1 tyX1_ok nmX1 10 (by omega) rfl hl rfl (ty := .int) (by decide +kernel) rfl rfl (by simp [zMi]) (zUp g i (upd (g i) (13 + 11 * t + 7) x)) (by rw [zE_plan hi]; simp [zUp, upd]) (z_ho hi (zo_p ht (by omega))) hdg kk
theorem gf_X4_rows (X : zC p m c cc nL s args own D k a) (hH : zH D k a s g H locs) {i t : Nat} (hi : i < 6) (ht : t < 4) {idx : Nat} (hl : .fieldLink own idx "KeptPlans$Table" "rows" "I" ∈ GW) (hdg : decode cc pc = .ok (.getfield idx, 3))
    (kk : W p l e R s m args below meth c H locs cells slots Q (F0 m (pc + 3) ls (.int (g i t) :: rest))) : W p l e R s m args below meth c H locs cells slots Q (F0 m pc ls (.ref (a i (4 + t)) :: rest)) :=
  z_get X hH (C := RX4) (T := TX4) (N := 4) (by omega) (by omega) (zE_table hi ht) rfl inX4 0 (by omega) rfl hl rfl hdg kk
theorem pf_X4_rows (X : zC p m c cc nL s args own D k a) (hH : zH D k a s g H locs) {i t : Nat} (hi : i < 6) (ht : t < 4) {idx : Nat} {x : Int32}  (hl : .fieldLink own idx "KeptPlans$Table" "rows" "I" ∈ GW) (hdg : decode cc pc = .ok (.putfield idx, 3))
    (kk : ∀ (H1 : Heap) (locs1 : List Loc), zH D k a s (zUp g i (upd (g i) t x)) H1 locs1 → W p l e R s m args below meth c H1 locs1 cells slots Q (F0 m (pc + 3) ls rest)) : W p l e R s m args below meth c H locs cells slots Q (F0 m pc ls (.int x :: .ref (a i (4 + t)) :: rest)) :=
  z_put X hH (C := RX4) (T := TX4) (N := 4) (by omega) (by omega) (zE_table hi ht) rfl inX4 tyX4 tyX4_ok nmX4 0 (by omega) rfl hl rfl (ty := .int) (by decide +kernel) rfl rfl (by simp [zMi]) (zUp g i (upd (g i) t x)) (by rw [zE_table hi ht]; simp [zUp, upd] <;> omega) (z_ho hi (zo_a ht)) hdg kk
theorem gf_X4_keys (X : zC p m c cc nL s args own D k a) (hH : zH D k a s g H locs) {i t : Nat} (hi : i < 6) (ht : t < 4) {idx : Nat} (hl : .fieldLink own idx "KeptPlans$Table" "keys" "I" ∈ GW) (hdg : decode cc pc = .ok (.getfield idx, 3))
    (kk : W p l e R s m args below meth c H locs cells slots Q (F0 m (pc + 3) ls (.int (g i (4 + t)) :: rest))) : W p l e R s m args below meth c H locs cells slots Q (F0 m pc ls (.ref (a i (4 + t)) :: rest)) :=
  z_get X hH (C := RX4) (T := TX4) (N := 4) (by omega) (by omega) (zE_table hi ht) rfl inX4 1 (by omega) rfl hl rfl hdg kk
theorem pf_X4_keys (X : zC p m c cc nL s args own D k a) (hH : zH D k a s g H locs) {i t : Nat} (hi : i < 6) (ht : t < 4) {idx : Nat} {x : Int32}  (hl : .fieldLink own idx "KeptPlans$Table" "keys" "I" ∈ GW) (hdg : decode cc pc = .ok (.putfield idx, 3))
    (kk : ∀ (H1 : Heap) (locs1 : List Loc), zH D k a s (zUp g i (upd (g i) (4 + t) x)) H1 locs1 → W p l e R s m args below meth c H1 locs1 cells slots Q (F0 m (pc + 3) ls rest)) : W p l e R s m args below meth c H locs cells slots Q (F0 m pc ls (.int x :: .ref (a i (4 + t)) :: rest)) :=
  z_put X hH (C := RX4) (T := TX4) (N := 4) (by omega) (by omega) (zE_table hi ht) rfl inX4 tyX4 tyX4_ok nmX4 1 (by omega) rfl hl rfl (ty := .int) (by decide +kernel) rfl rfl (by simp [zMi]) (zUp g i (upd (g i) (4 + t) x)) (by rw [zE_table hi ht]; simp [zUp, upd] <;> omega) (z_ho hi (zo_b ht)) hdg kk
theorem gf_X4_questions (X : zC p m c cc nL s args own D k a) (hH : zH D k a s g H locs) {i t : Nat} (hi : i < 6) (ht : t < 4) {idx : Nat} (hl : .fieldLink own idx "KeptPlans$Table" "questions" "I" ∈ GW) (hdg : decode cc pc = .ok (.getfield idx, 3))
    (kk : W p l e R s m args below meth c H locs cells slots Q (F0 m (pc + 3) ls (.int (g i (152 + t)) :: rest))) : W p l e R s m args below meth c H locs cells slots Q (F0 m pc ls (.ref (a i (4 + t)) :: rest)) :=
  z_get X hH (C := RX4) (T := TX4) (N := 4) (by omega) (by omega) (zE_table hi ht) rfl inX4 2 (by omega) rfl hl rfl hdg kk
theorem pf_X4_questions (X : zC p m c cc nL s args own D k a) (hH : zH D k a s g H locs) {i t : Nat} (hi : i < 6) (ht : t < 4) {idx : Nat} {x : Int32}  (hl : .fieldLink own idx "KeptPlans$Table" "questions" "I" ∈ GW) (hdg : decode cc pc = .ok (.putfield idx, 3))
    (kk : ∀ (H1 : Heap) (locs1 : List Loc), zH D k a s (zUp g i (upd (g i) (152 + t) x)) H1 locs1 → W p l e R s m args below meth c H1 locs1 cells slots Q (F0 m (pc + 3) ls rest)) : W p l e R s m args below meth c H locs cells slots Q (F0 m pc ls (.int x :: .ref (a i (4 + t)) :: rest)) :=
  z_put X hH (C := RX4) (T := TX4) (N := 4) (by omega) (by omega) (zE_table hi ht) rfl inX4 tyX4 tyX4_ok nmX4 2 (by omega) rfl hl rfl (ty := .int) (by decide +kernel) rfl rfl (by simp [zMi]) (zUp g i (upd (g i) (152 + t) x)) (by rw [zE_table hi ht]; simp [zUp, upd] <;> omega) (z_ho hi (zo_c ht)) hdg kk
theorem gf_X4_spent (X : zC p m c cc nL s args own D k a) (hH : zH D k a s g H locs) {i t : Nat} (hi : i < 6) (ht : t < 4) {idx : Nat} (hl : .fieldLink own idx "KeptPlans$Table" "spent" "I" ∈ GW) (hdg : decode cc pc = .ok (.getfield idx, 3))
    (kk : W p l e R s m args below meth c H locs cells slots Q (F0 m (pc + 3) ls (.int (g i (156 + t)) :: rest))) : W p l e R s m args below meth c H locs cells slots Q (F0 m pc ls (.ref (a i (4 + t)) :: rest)) :=
  z_get X hH (C := RX4) (T := TX4) (N := 4) (by omega) (by omega) (zE_table hi ht) rfl inX4 3 (by omega) rfl hl rfl hdg kk
theorem pf_X4_spent (X : zC p m c cc nL s args own D k a) (hH : zH D k a s g H locs) {i t : Nat} (hi : i < 6) (ht : t < 4) {idx : Nat} {x : Int32}  (hl : .fieldLink own idx "KeptPlans$Table" "spent" "I" ∈ GW) (hdg : decode cc pc = .ok (.putfield idx, 3))
    (kk : ∀ (H1 : Heap) (locs1 : List Loc), zH D k a s (zUp g i (upd (g i) (156 + t) x)) H1 locs1 → W p l e R s m args below meth c H1 locs1 cells slots Q (F0 m (pc + 3) ls rest)) : W p l e R s m args below meth c H locs cells slots Q (F0 m pc ls (.int x :: .ref (a i (4 + t)) :: rest)) :=
  z_put X hH (C := RX4) (T := TX4) (N := 4) (by omega) (by omega) (zE_table hi ht) rfl inX4 tyX4 tyX4_ok nmX4 3 (by omega) rfl hl rfl (ty := .int) (by decide +kernel) rfl rfl (by simp [zMi]) (zUp g i (upd (g i) (156 + t) x)) (by rw [zE_table hi ht]; simp [zUp, upd] <;> omega) (z_ho hi (zo_d ht)) hdg kk
theorem gf_X3_tables (X : zC p m c cc nL s args own D k a) (hH : zH D k a s g H locs) {i : Nat} (hi : i < 6) {idx : Nat} (hl : .fieldLink own idx "KeptPlans$State" "tables" "[LKeptPlans$Table;" ∈ GW) (hdg : decode cc pc = .ok (.getfield idx, 3))
    (kk : W p l e R s m args below meth c H locs cells slots Q (F0 m (pc + 3) ls (.ref (a i 1) :: rest))) : W p l e R s m args below meth c H locs cells slots Q (F0 m pc ls (.ref (a i 0) :: rest)) :=
  z_get X hH (C := RX3) (T := TX3) (N := 10) (by omega) (by omega) (zE_state hi) rfl inX3 0 (by omega) rfl hl rfl hdg kk
theorem gf_X3_plans (X : zC p m c cc nL s args own D k a) (hH : zH D k a s g H locs) {i : Nat} (hi : i < 6) {idx : Nat} (hl : .fieldLink own idx "KeptPlans$State" "plans" "[LKeptPlans$Plan;" ∈ GW) (hdg : decode cc pc = .ok (.getfield idx, 3))
    (kk : W p l e R s m args below meth c H locs cells slots Q (F0 m (pc + 3) ls (.ref (a i 2) :: rest))) : W p l e R s m args below meth c H locs cells slots Q (F0 m pc ls (.ref (a i 0) :: rest)) :=
  z_get X hH (C := RX3) (T := TX3) (N := 10) (by omega) (by omega) (zE_state hi) rfl inX3 1 (by omega) rfl hl rfl hdg kk
theorem gf_X3_settings (X : zC p m c cc nL s args own D k a) (hH : zH D k a s g H locs) {i : Nat} (hi : i < 6) {idx : Nat} (hl : .fieldLink own idx "KeptPlans$State" "settings" "[I" ∈ GW) (hdg : decode cc pc = .ok (.getfield idx, 3))
    (kk : W p l e R s m args below meth c H locs cells slots Q (F0 m (pc + 3) ls (.ref (a i 3) :: rest))) : W p l e R s m args below meth c H locs cells slots Q (F0 m pc ls (.ref (a i 0) :: rest)) :=
  z_get X hH (C := RX3) (T := TX3) (N := 10) (by omega) (by omega) (zE_state hi) rfl inX3 2 (by omega) rfl hl rfl hdg kk
theorem gf_X3_questions (X : zC p m c cc nL s args own D k a) (hH : zH D k a s g H locs) {i : Nat} (hi : i < 6) {idx : Nat} (hl : .fieldLink own idx "KeptPlans$State" "questions" "I" ∈ GW) (hdg : decode cc pc = .ok (.getfield idx, 3))
    (kk : W p l e R s m args below meth c H locs cells slots Q (F0 m (pc + 3) ls (.int (g i 145) :: rest))) : W p l e R s m args below meth c H locs cells slots Q (F0 m pc ls (.ref (a i 0) :: rest)) :=
  z_get X hH (C := RX3) (T := TX3) (N := 10) (by omega) (by omega) (zE_state hi) rfl inX3 3 (by omega) rfl hl rfl hdg kk
theorem pf_X3_questions (X : zC p m c cc nL s args own D k a) (hH : zH D k a s g H locs) {i : Nat} (hi : i < 6) {idx : Nat} {x : Int32}  (hl : .fieldLink own idx "KeptPlans$State" "questions" "I" ∈ GW) (hdg : decode cc pc = .ok (.putfield idx, 3))
    (kk : ∀ (H1 : Heap) (locs1 : List Loc), zH D k a s (zUp g i (upd (g i) 145 x)) H1 locs1 → W p l e R s m args below meth c H1 locs1 cells slots Q (F0 m (pc + 3) ls rest)) : W p l e R s m args below meth c H locs cells slots Q (F0 m pc ls (.int x :: .ref (a i 0) :: rest)) :=
  z_put X hH (C := RX3) (T := TX3) (N := 10) (by omega) (by omega) (zE_state hi) rfl inX3 tyX3 tyX3_ok nmX3 3 (by omega) rfl hl rfl (ty := .int) (by decide +kernel) rfl rfl (by simp [zMi]) (zUp g i (upd (g i) 145 x)) (by rw [zE_state hi]; simp [zUp, upd]) (z_ho hi (zo_0 (by omega) (by omega))) hdg kk
theorem gf_X3_hits (X : zC p m c cc nL s args own D k a) (hH : zH D k a s g H locs) {i : Nat} (hi : i < 6) {idx : Nat} (hl : .fieldLink own idx "KeptPlans$State" "hits" "I" ∈ GW) (hdg : decode cc pc = .ok (.getfield idx, 3))
    (kk : W p l e R s m args below meth c H locs cells slots Q (F0 m (pc + 3) ls (.int (g i 146) :: rest))) : W p l e R s m args below meth c H locs cells slots Q (F0 m pc ls (.ref (a i 0) :: rest)) :=
  z_get X hH (C := RX3) (T := TX3) (N := 10) (by omega) (by omega) (zE_state hi) rfl inX3 4 (by omega) rfl hl rfl hdg kk
theorem pf_X3_hits (X : zC p m c cc nL s args own D k a) (hH : zH D k a s g H locs) {i : Nat} (hi : i < 6) {idx : Nat} {x : Int32}  (hl : .fieldLink own idx "KeptPlans$State" "hits" "I" ∈ GW) (hdg : decode cc pc = .ok (.putfield idx, 3))
    (kk : ∀ (H1 : Heap) (locs1 : List Loc), zH D k a s (zUp g i (upd (g i) 146 x)) H1 locs1 → W p l e R s m args below meth c H1 locs1 cells slots Q (F0 m (pc + 3) ls rest)) : W p l e R s m args below meth c H locs cells slots Q (F0 m pc ls (.int x :: .ref (a i 0) :: rest)) :=
  z_put X hH (C := RX3) (T := TX3) (N := 10) (by omega) (by omega) (zE_state hi) rfl inX3 tyX3 tyX3_ok nmX3 4 (by omega) rfl hl rfl (ty := .int) (by decide +kernel) rfl rfl (by simp [zMi]) (zUp g i (upd (g i) 146 x)) (by rw [zE_state hi]; simp [zUp, upd]) (z_ho hi (zo_0 (by omega) (by omega))) hdg kk
theorem gf_X3_misses (X : zC p m c cc nL s args own D k a) (hH : zH D k a s g H locs) {i : Nat} (hi : i < 6) {idx : Nat} (hl : .fieldLink own idx "KeptPlans$State" "misses" "I" ∈ GW) (hdg : decode cc pc = .ok (.getfield idx, 3))
    (kk : W p l e R s m args below meth c H locs cells slots Q (F0 m (pc + 3) ls (.int (g i 147) :: rest))) : W p l e R s m args below meth c H locs cells slots Q (F0 m pc ls (.ref (a i 0) :: rest)) :=
  z_get X hH (C := RX3) (T := TX3) (N := 10) (by omega) (by omega) (zE_state hi) rfl inX3 5 (by omega) rfl hl rfl hdg kk
theorem pf_X3_misses (X : zC p m c cc nL s args own D k a) (hH : zH D k a s g H locs) {i : Nat} (hi : i < 6) {idx : Nat} {x : Int32}  (hl : .fieldLink own idx "KeptPlans$State" "misses" "I" ∈ GW) (hdg : decode cc pc = .ok (.putfield idx, 3))
    (kk : ∀ (H1 : Heap) (locs1 : List Loc), zH D k a s (zUp g i (upd (g i) 147 x)) H1 locs1 → W p l e R s m args below meth c H1 locs1 cells slots Q (F0 m (pc + 3) ls rest)) : W p l e R s m args below meth c H locs cells slots Q (F0 m pc ls (.int x :: .ref (a i 0) :: rest)) :=
  z_put X hH (C := RX3) (T := TX3) (N := 10) (by omega) (by omega) (zE_state hi) rfl inX3 tyX3 tyX3_ok nmX3 5 (by omega) rfl hl rfl (ty := .int) (by decide +kernel) rfl rfl (by simp [zMi]) (zUp g i (upd (g i) 147 x)) (by rw [zE_state hi]; simp [zUp, upd]) (z_ho hi (zo_0 (by omega) (by omega))) hdg kk
theorem gf_X3_spent (X : zC p m c cc nL s args own D k a) (hH : zH D k a s g H locs) {i : Nat} (hi : i < 6) {idx : Nat} (hl : .fieldLink own idx "KeptPlans$State" "spent" "I" ∈ GW) (hdg : decode cc pc = .ok (.getfield idx, 3))
    (kk : W p l e R s m args below meth c H locs cells slots Q (F0 m (pc + 3) ls (.int (g i 148) :: rest))) : W p l e R s m args below meth c H locs cells slots Q (F0 m pc ls (.ref (a i 0) :: rest)) :=
  z_get X hH (C := RX3) (T := TX3) (N := 10) (by omega) (by omega) (zE_state hi) rfl inX3 6 (by omega) rfl hl rfl hdg kk
theorem pf_X3_spent (X : zC p m c cc nL s args own D k a) (hH : zH D k a s g H locs) {i : Nat} (hi : i < 6) {idx : Nat} {x : Int32}  (hl : .fieldLink own idx "KeptPlans$State" "spent" "I" ∈ GW) (hdg : decode cc pc = .ok (.putfield idx, 3))
    (kk : ∀ (H1 : Heap) (locs1 : List Loc), zH D k a s (zUp g i (upd (g i) 148 x)) H1 locs1 → W p l e R s m args below meth c H1 locs1 cells slots Q (F0 m (pc + 3) ls rest)) : W p l e R s m args below meth c H locs cells slots Q (F0 m pc ls (.int x :: .ref (a i 0) :: rest)) :=
  z_put X hH (C := RX3) (T := TX3) (N := 10) (by omega) (by omega) (zE_state hi) rfl inX3 tyX3 tyX3_ok nmX3 6 (by omega) rfl hl rfl (ty := .int) (by decide +kernel) rfl rfl (by simp [zMi]) (zUp g i (upd (g i) 148 x)) (by rw [zE_state hi]; simp [zUp, upd]) (z_ho hi (zo_0 (by omega) (by omega))) hdg kk
theorem gf_X3_spentLooking (X : zC p m c cc nL s args own D k a) (hH : zH D k a s g H locs) {i : Nat} (hi : i < 6) {idx : Nat} (hl : .fieldLink own idx "KeptPlans$State" "spentLooking" "I" ∈ GW) (hdg : decode cc pc = .ok (.getfield idx, 3))
    (kk : W p l e R s m args below meth c H locs cells slots Q (F0 m (pc + 3) ls (.int (g i 149) :: rest))) : W p l e R s m args below meth c H locs cells slots Q (F0 m pc ls (.ref (a i 0) :: rest)) :=
  z_get X hH (C := RX3) (T := TX3) (N := 10) (by omega) (by omega) (zE_state hi) rfl inX3 7 (by omega) rfl hl rfl hdg kk
theorem pf_X3_spentLooking (X : zC p m c cc nL s args own D k a) (hH : zH D k a s g H locs) {i : Nat} (hi : i < 6) {idx : Nat} {x : Int32}  (hl : .fieldLink own idx "KeptPlans$State" "spentLooking" "I" ∈ GW) (hdg : decode cc pc = .ok (.putfield idx, 3))
    (kk : ∀ (H1 : Heap) (locs1 : List Loc), zH D k a s (zUp g i (upd (g i) 149 x)) H1 locs1 → W p l e R s m args below meth c H1 locs1 cells slots Q (F0 m (pc + 3) ls rest)) : W p l e R s m args below meth c H locs cells slots Q (F0 m pc ls (.int x :: .ref (a i 0) :: rest)) :=
  z_put X hH (C := RX3) (T := TX3) (N := 10) (by omega) (by omega) (zE_state hi) rfl inX3 tyX3 tyX3_ok nmX3 7 (by omega) rfl hl rfl (ty := .int) (by decide +kernel) rfl rfl (by simp [zMi]) (zUp g i (upd (g i) 149 x)) (by rw [zE_state hi]; simp [zUp, upd]) (z_ho hi (zo_0 (by omega) (by omega))) hdg kk
theorem gf_X3_turnedBad (X : zC p m c cc nL s args own D k a) (hH : zH D k a s g H locs) {i : Nat} (hi : i < 6) {idx : Nat} (hl : .fieldLink own idx "KeptPlans$State" "turnedBad" "I" ∈ GW) (hdg : decode cc pc = .ok (.getfield idx, 3))
    (kk : W p l e R s m args below meth c H locs cells slots Q (F0 m (pc + 3) ls (.int (g i 150) :: rest))) : W p l e R s m args below meth c H locs cells slots Q (F0 m pc ls (.ref (a i 0) :: rest)) :=
  z_get X hH (C := RX3) (T := TX3) (N := 10) (by omega) (by omega) (zE_state hi) rfl inX3 8 (by omega) rfl hl rfl hdg kk
theorem pf_X3_turnedBad (X : zC p m c cc nL s args own D k a) (hH : zH D k a s g H locs) {i : Nat} (hi : i < 6) {idx : Nat} {x : Int32}  (hl : .fieldLink own idx "KeptPlans$State" "turnedBad" "I" ∈ GW) (hdg : decode cc pc = .ok (.putfield idx, 3))
    (kk : ∀ (H1 : Heap) (locs1 : List Loc), zH D k a s (zUp g i (upd (g i) 150 x)) H1 locs1 → W p l e R s m args below meth c H1 locs1 cells slots Q (F0 m (pc + 3) ls rest)) : W p l e R s m args below meth c H locs cells slots Q (F0 m pc ls (.int x :: .ref (a i 0) :: rest)) :=
  z_put X hH (C := RX3) (T := TX3) (N := 10) (by omega) (by omega) (zE_state hi) rfl inX3 tyX3 tyX3_ok nmX3 8 (by omega) rfl hl rfl (ty := .int) (by decide +kernel) rfl rfl (by simp [zMi]) (zUp g i (upd (g i) 150 x)) (by rw [zE_state hi]; simp [zUp, upd]) (z_ho hi (zo_0 (by omega) (by omega))) hdg kk
theorem gf_X3_crowdedOut (X : zC p m c cc nL s args own D k a) (hH : zH D k a s g H locs) {i : Nat} (hi : i < 6) {idx : Nat} (hl : .fieldLink own idx "KeptPlans$State" "crowdedOut" "I" ∈ GW) (hdg : decode cc pc = .ok (.getfield idx, 3))
    (kk : W p l e R s m args below meth c H locs cells slots Q (F0 m (pc + 3) ls (.int (g i 151) :: rest))) : W p l e R s m args below meth c H locs cells slots Q (F0 m pc ls (.ref (a i 0) :: rest)) :=
  z_get X hH (C := RX3) (T := TX3) (N := 10) (by omega) (by omega) (zE_state hi) rfl inX3 9 (by omega) rfl hl rfl hdg kk
theorem pf_X3_crowdedOut (X : zC p m c cc nL s args own D k a) (hH : zH D k a s g H locs) {i : Nat} (hi : i < 6) {idx : Nat} {x : Int32}  (hl : .fieldLink own idx "KeptPlans$State" "crowdedOut" "I" ∈ GW) (hdg : decode cc pc = .ok (.putfield idx, 3))
    (kk : ∀ (H1 : Heap) (locs1 : List Loc), zH D k a s (zUp g i (upd (g i) 151 x)) H1 locs1 → W p l e R s m args below meth c H1 locs1 cells slots Q (F0 m (pc + 3) ls rest)) : W p l e R s m args below meth c H locs cells slots Q (F0 m pc ls (.int x :: .ref (a i 0) :: rest)) :=
  z_put X hH (C := RX3) (T := TX3) (N := 10) (by omega) (by omega) (zE_state hi) rfl inX3 tyX3 tyX3_ok nmX3 9 (by omega) rfl hl rfl (ty := .int) (by decide +kernel) rfl rfl (by simp [zMi]) (zUp g i (upd (g i) 151 x)) (by rw [zE_state hi]; simp [zUp, upd]) (z_ho hi (zo_0 (by omega) (by omega))) hdg kk
theorem gf_X5_now (X : zC p m c cc nL s args own D k a) (hH : zH D k a s g H locs)  {idx : Nat} (hl : .fieldLink own idx "KeptPlans" "now" "LKeptPlans$State;" ∈ GW) (hdg : decode cc pc = .ok (.getfield idx, 3))
    (kk : W p l e R s m args below meth c H locs cells slots Q (F0 m (pc + 3) ls (.ref (a 0 0) :: rest))) : W p l e R s m args below meth c H locs cells slots Q (F0 m pc ls (.ref (a 6 0) :: rest)) :=
  z_get X hH (C := RX5) (T := TX5) (N := 5) (by omega) (by omega) (zE_m) rfl inX5 0 (by omega) rfl hl rfl hdg kk
theorem gf_X5_snapshot (X : zC p m c cc nL s args own D k a) (hH : zH D k a s g H locs)  {idx : Nat} (hl : .fieldLink own idx "KeptPlans" "snapshot" "LKeptPlans$State;" ∈ GW) (hdg : decode cc pc = .ok (.getfield idx, 3))
    (kk : W p l e R s m args below meth c H locs cells slots Q (F0 m (pc + 3) ls (.ref (a 1 0) :: rest))) : W p l e R s m args below meth c H locs cells slots Q (F0 m pc ls (.ref (a 6 0) :: rest)) :=
  z_get X hH (C := RX5) (T := TX5) (N := 5) (by omega) (by omega) (zE_m) rfl inX5 1 (by omega) rfl hl rfl hdg kk
theorem gf_X5_history (X : zC p m c cc nL s args own D k a) (hH : zH D k a s g H locs)  {idx : Nat} (hl : .fieldLink own idx "KeptPlans" "history" "LKeptPlans$History;" ∈ GW) (hdg : decode cc pc = .ok (.getfield idx, 3))
    (kk : W p l e R s m args below meth c H locs cells slots Q (F0 m (pc + 3) ls (.ref (a 6 1) :: rest))) : W p l e R s m args below meth c H locs cells slots Q (F0 m pc ls (.ref (a 6 0) :: rest)) :=
  z_get X hH (C := RX5) (T := TX5) (N := 5) (by omega) (by omega) (zE_m) rfl inX5 2 (by omega) rfl hl rfl hdg kk
theorem gf_X5_text (X : zC p m c cc nL s args own D k a) (hH : zH D k a s g H locs)  {idx : Nat} (hl : .fieldLink own idx "KeptPlans" "text" "LKeptPlans$QuestionText;" ∈ GW) (hdg : decode cc pc = .ok (.getfield idx, 3))
    (kk : W p l e R s m args below meth c H locs cells slots Q (F0 m (pc + 3) ls (.ref (a 6 3) :: rest))) : W p l e R s m args below meth c H locs cells slots Q (F0 m pc ls (.ref (a 6 0) :: rest)) :=
  z_get X hH (C := RX5) (T := TX5) (N := 5) (by omega) (by omega) (zE_m) rfl inX5 3 (by omega) rfl hl rfl hdg kk
theorem gf_X5_hasSnapshot (X : zC p m c cc nL s args own D k a) (hH : zH D k a s g H locs)  {idx : Nat} (hl : .fieldLink own idx "KeptPlans" "hasSnapshot" "Z" ∈ GW) (hdg : decode cc pc = .ok (.getfield idx, 3))
    (kk : W p l e R s m args below meth c H locs cells slots Q (F0 m (pc + 3) ls (.int (g 6 5) :: rest))) : W p l e R s m args below meth c H locs cells slots Q (F0 m pc ls (.ref (a 6 0) :: rest)) :=
  z_get X hH (C := RX5) (T := TX5) (N := 5) (by omega) (by omega) (zE_m) rfl inX5 4 (by omega) rfl hl rfl hdg kk
theorem pf_X5_hasSnapshot (X : zC p m c cc nL s args own D k a) (hH : zH D k a s g H locs)  {idx : Nat} {x : Int32} (hx : x = 0 ∨ x = 1) (hl : .fieldLink own idx "KeptPlans" "hasSnapshot" "Z" ∈ GW) (hdg : decode cc pc = .ok (.putfield idx, 3))
    (kk : ∀ (H1 : Heap) (locs1 : List Loc), zH D k a s (zUp g 6 (upd (g 6) 5 x)) H1 locs1 → W p l e R s m args below meth c H1 locs1 cells slots Q (F0 m (pc + 3) ls rest)) : W p l e R s m args below meth c H locs cells slots Q (F0 m pc ls (.int x :: .ref (a 6 0) :: rest)) :=
  z_put X hH (C := RX5) (T := TX5) (N := 5) (by omega) (by omega) (zE_m) rfl inX5 tyX5 tyX5_ok nmX5 4 (by omega) rfl hl rfl (ty := .boolean) (by decide +kernel) (by rcases hx with rfl | rfl <;> rfl) (by rcases hx with rfl | rfl <;> rfl) (by simp [zMi]) (zUp g 6 (upd (g 6) 5 x)) (by rw [zE_m]; simp [zMi, zUp, upd]) (zE_mi (fun j hj => zUp_n g _ (by omega)) (fun r hr hne => by rcases (show r = 0 ∨ r = 1 ∨ r = 2 ∨ r = 3 ∨ r = 4 ∨ r = 5 ∨ r = 6 ∨ r = 7 ∨ r = 8 ∨ r = 9 ∨ r = 10 by omega) with rfl | rfl | rfl | rfl | rfl | rfl | rfl | rfl | rfl | rfl | rfl <;> first | (exact absurd rfl hne) | (exact zMi_9 (fun j h1 h2 => zUp_n g _ (by omega))) | simp [zMi, zUp, upd])) hdg kk
theorem gf_X0_states (X : zC p m c cc nL s args own D k a) (hH : zH D k a s g H locs)  {idx : Nat} (hl : .fieldLink own idx "KeptPlans$History" "states" "[LKeptPlans$State;" ∈ GW) (hdg : decode cc pc = .ok (.getfield idx, 3))
    (kk : W p l e R s m args below meth c H locs cells slots Q (F0 m (pc + 3) ls (.ref (a 6 2) :: rest))) : W p l e R s m args below meth c H locs cells slots Q (F0 m pc ls (.ref (a 6 1) :: rest)) :=
  z_get X hH (C := RX0) (T := TX0) (N := 3) (by omega) (by omega) (zE_m) rfl inX0 0 (by omega) rfl hl rfl hdg kk
theorem gf_X0_next (X : zC p m c cc nL s args own D k a) (hH : zH D k a s g H locs)  {idx : Nat} (hl : .fieldLink own idx "KeptPlans$History" "next" "I" ∈ GW) (hdg : decode cc pc = .ok (.getfield idx, 3))
    (kk : W p l e R s m args below meth c H locs cells slots Q (F0 m (pc + 3) ls (.int (g 6 0) :: rest))) : W p l e R s m args below meth c H locs cells slots Q (F0 m pc ls (.ref (a 6 1) :: rest)) :=
  z_get X hH (C := RX0) (T := TX0) (N := 3) (by omega) (by omega) (zE_m) rfl inX0 1 (by omega) rfl hl rfl hdg kk
theorem pf_X0_next (X : zC p m c cc nL s args own D k a) (hH : zH D k a s g H locs)  {idx : Nat} {x : Int32}  (hl : .fieldLink own idx "KeptPlans$History" "next" "I" ∈ GW) (hdg : decode cc pc = .ok (.putfield idx, 3))
    (kk : ∀ (H1 : Heap) (locs1 : List Loc), zH D k a s (zUp g 6 (upd (g 6) 0 x)) H1 locs1 → W p l e R s m args below meth c H1 locs1 cells slots Q (F0 m (pc + 3) ls rest)) : W p l e R s m args below meth c H locs cells slots Q (F0 m pc ls (.int x :: .ref (a 6 1) :: rest)) :=
  z_put X hH (C := RX0) (T := TX0) (N := 3) (by omega) (by omega) (zE_m) rfl inX0 tyX0 tyX0_ok nmX0 1 (by omega) rfl hl rfl (ty := .int) (by decide +kernel) rfl rfl (by simp [zMi]) (zUp g 6 (upd (g 6) 0 x)) (by rw [zE_m]; simp [zMi, zUp, upd]) (zE_mi (fun j hj => zUp_n g _ (by omega)) (fun r hr hne => by rcases (show r = 0 ∨ r = 1 ∨ r = 2 ∨ r = 3 ∨ r = 4 ∨ r = 5 ∨ r = 6 ∨ r = 7 ∨ r = 8 ∨ r = 9 ∨ r = 10 by omega) with rfl | rfl | rfl | rfl | rfl | rfl | rfl | rfl | rfl | rfl | rfl <;> first | (exact absurd rfl hne) | (exact zMi_9 (fun j h1 h2 => zUp_n g _ (by omega))) | simp [zMi, zUp, upd])) hdg kk
theorem gf_X0_size (X : zC p m c cc nL s args own D k a) (hH : zH D k a s g H locs)  {idx : Nat} (hl : .fieldLink own idx "KeptPlans$History" "size" "I" ∈ GW) (hdg : decode cc pc = .ok (.getfield idx, 3))
    (kk : W p l e R s m args below meth c H locs cells slots Q (F0 m (pc + 3) ls (.int (g 6 1) :: rest))) : W p l e R s m args below meth c H locs cells slots Q (F0 m pc ls (.ref (a 6 1) :: rest)) :=
  z_get X hH (C := RX0) (T := TX0) (N := 3) (by omega) (by omega) (zE_m) rfl inX0 2 (by omega) rfl hl rfl hdg kk
theorem pf_X0_size (X : zC p m c cc nL s args own D k a) (hH : zH D k a s g H locs)  {idx : Nat} {x : Int32}  (hl : .fieldLink own idx "KeptPlans$History" "size" "I" ∈ GW) (hdg : decode cc pc = .ok (.putfield idx, 3))
    (kk : ∀ (H1 : Heap) (locs1 : List Loc), zH D k a s (zUp g 6 (upd (g 6) 1 x)) H1 locs1 → W p l e R s m args below meth c H1 locs1 cells slots Q (F0 m (pc + 3) ls rest)) : W p l e R s m args below meth c H locs cells slots Q (F0 m pc ls (.int x :: .ref (a 6 1) :: rest)) :=
  z_put X hH (C := RX0) (T := TX0) (N := 3) (by omega) (by omega) (zE_m) rfl inX0 tyX0 tyX0_ok nmX0 2 (by omega) rfl hl rfl (ty := .int) (by decide +kernel) rfl rfl (by simp [zMi]) (zUp g 6 (upd (g 6) 1 x)) (by rw [zE_m]; simp [zMi, zUp, upd]) (zE_mi (fun j hj => zUp_n g _ (by omega)) (fun r hr hne => by rcases (show r = 0 ∨ r = 1 ∨ r = 2 ∨ r = 3 ∨ r = 4 ∨ r = 5 ∨ r = 6 ∨ r = 7 ∨ r = 8 ∨ r = 9 ∨ r = 10 by omega) with rfl | rfl | rfl | rfl | rfl | rfl | rfl | rfl | rfl | rfl | rfl <;> first | (exact absurd rfl hne) | (exact zMi_9 (fun j h1 h2 => zUp_n g _ (by omega))) | simp [zMi, zUp, upd])) hdg kk
theorem gf_X2_signs (X : zC p m c cc nL s args own D k a) (hH : zH D k a s g H locs)  {idx : Nat} (hl : .fieldLink own idx "KeptPlans$QuestionText" "signs" "[C" ∈ GW) (hdg : decode cc pc = .ok (.getfield idx, 3))
    (kk : W p l e R s m args below meth c H locs cells slots Q (F0 m (pc + 3) ls (.ref (a 6 4) :: rest))) : W p l e R s m args below meth c H locs cells slots Q (F0 m pc ls (.ref (a 6 3) :: rest)) :=
  z_get X hH (C := RX2) (T := TX2) (N := 7) (by omega) (by omega) (zE_m) rfl inX2 0 (by omega) rfl hl rfl hdg kk
theorem gf_X2_length (X : zC p m c cc nL s args own D k a) (hH : zH D k a s g H locs)  {idx : Nat} (hl : .fieldLink own idx "KeptPlans$QuestionText" "length" "I" ∈ GW) (hdg : decode cc pc = .ok (.getfield idx, 3))
    (kk : W p l e R s m args below meth c H locs cells slots Q (F0 m (pc + 3) ls (.int (g 6 2) :: rest))) : W p l e R s m args below meth c H locs cells slots Q (F0 m pc ls (.ref (a 6 3) :: rest)) :=
  z_get X hH (C := RX2) (T := TX2) (N := 7) (by omega) (by omega) (zE_m) rfl inX2 1 (by omega) rfl hl rfl hdg kk
theorem pf_X2_length (X : zC p m c cc nL s args own D k a) (hH : zH D k a s g H locs)  {idx : Nat} {x : Int32}  (hl : .fieldLink own idx "KeptPlans$QuestionText" "length" "I" ∈ GW) (hdg : decode cc pc = .ok (.putfield idx, 3))
    (kk : ∀ (H1 : Heap) (locs1 : List Loc), zH D k a s (zUp g 6 (upd (g 6) 2 x)) H1 locs1 → W p l e R s m args below meth c H1 locs1 cells slots Q (F0 m (pc + 3) ls rest)) : W p l e R s m args below meth c H locs cells slots Q (F0 m pc ls (.int x :: .ref (a 6 3) :: rest)) :=
  z_put X hH (C := RX2) (T := TX2) (N := 7) (by omega) (by omega) (zE_m) rfl inX2 tyX2 tyX2_ok nmX2 1 (by omega) rfl hl rfl (ty := .int) (by decide +kernel) rfl rfl (by simp [zMi]) (zUp g 6 (upd (g 6) 2 x)) (by rw [zE_m]; simp [zMi, zUp, upd]) (zE_mi (fun j hj => zUp_n g _ (by omega)) (fun r hr hne => by rcases (show r = 0 ∨ r = 1 ∨ r = 2 ∨ r = 3 ∨ r = 4 ∨ r = 5 ∨ r = 6 ∨ r = 7 ∨ r = 8 ∨ r = 9 ∨ r = 10 by omega) with rfl | rfl | rfl | rfl | rfl | rfl | rfl | rfl | rfl | rfl | rfl <;> first | (exact absurd rfl hne) | (exact zMi_9 (fun j h1 h2 => zUp_n g _ (by omega))) | simp [zMi, zUp, upd])) hdg kk
theorem gf_X2_words (X : zC p m c cc nL s args own D k a) (hH : zH D k a s g H locs)  {idx : Nat} (hl : .fieldLink own idx "KeptPlans$QuestionText" "words" "[I" ∈ GW) (hdg : decode cc pc = .ok (.getfield idx, 3))
    (kk : W p l e R s m args below meth c H locs cells slots Q (F0 m (pc + 3) ls (.ref (a 6 5) :: rest))) : W p l e R s m args below meth c H locs cells slots Q (F0 m pc ls (.ref (a 6 3) :: rest)) :=
  z_get X hH (C := RX2) (T := TX2) (N := 7) (by omega) (by omega) (zE_m) rfl inX2 2 (by omega) rfl hl rfl hdg kk
theorem gf_X2_tables (X : zC p m c cc nL s args own D k a) (hH : zH D k a s g H locs)  {idx : Nat} (hl : .fieldLink own idx "KeptPlans$QuestionText" "tables" "[I" ∈ GW) (hdg : decode cc pc = .ok (.getfield idx, 3))
    (kk : W p l e R s m args below meth c H locs cells slots Q (F0 m (pc + 3) ls (.ref (a 6 6) :: rest))) : W p l e R s m args below meth c H locs cells slots Q (F0 m pc ls (.ref (a 6 3) :: rest)) :=
  z_get X hH (C := RX2) (T := TX2) (N := 7) (by omega) (by omega) (zE_m) rfl inX2 3 (by omega) rfl hl rfl hdg kk
theorem gf_X2_numbers (X : zC p m c cc nL s args own D k a) (hH : zH D k a s g H locs)  {idx : Nat} (hl : .fieldLink own idx "KeptPlans$QuestionText" "numbers" "[I" ∈ GW) (hdg : decode cc pc = .ok (.getfield idx, 3))
    (kk : W p l e R s m args below meth c H locs cells slots Q (F0 m (pc + 3) ls (.ref (a 6 7) :: rest))) : W p l e R s m args below meth c H locs cells slots Q (F0 m pc ls (.ref (a 6 3) :: rest)) :=
  z_get X hH (C := RX2) (T := TX2) (N := 7) (by omega) (by omega) (zE_m) rfl inX2 4 (by omega) rfl hl rfl hdg kk
theorem gf_X2_lines (X : zC p m c cc nL s args own D k a) (hH : zH D k a s g H locs)  {idx : Nat} (hl : .fieldLink own idx "KeptPlans$QuestionText" "lines" "I" ∈ GW) (hdg : decode cc pc = .ok (.getfield idx, 3))
    (kk : W p l e R s m args below meth c H locs cells slots Q (F0 m (pc + 3) ls (.int (g 6 3) :: rest))) : W p l e R s m args below meth c H locs cells slots Q (F0 m pc ls (.ref (a 6 3) :: rest)) :=
  z_get X hH (C := RX2) (T := TX2) (N := 7) (by omega) (by omega) (zE_m) rfl inX2 5 (by omega) rfl hl rfl hdg kk
theorem pf_X2_lines (X : zC p m c cc nL s args own D k a) (hH : zH D k a s g H locs)  {idx : Nat} {x : Int32}  (hl : .fieldLink own idx "KeptPlans$QuestionText" "lines" "I" ∈ GW) (hdg : decode cc pc = .ok (.putfield idx, 3))
    (kk : ∀ (H1 : Heap) (locs1 : List Loc), zH D k a s (zUp g 6 (upd (g 6) 3 x)) H1 locs1 → W p l e R s m args below meth c H1 locs1 cells slots Q (F0 m (pc + 3) ls rest)) : W p l e R s m args below meth c H locs cells slots Q (F0 m pc ls (.int x :: .ref (a 6 3) :: rest)) :=
  z_put X hH (C := RX2) (T := TX2) (N := 7) (by omega) (by omega) (zE_m) rfl inX2 tyX2 tyX2_ok nmX2 5 (by omega) rfl hl rfl (ty := .int) (by decide +kernel) rfl rfl (by simp [zMi]) (zUp g 6 (upd (g 6) 3 x)) (by rw [zE_m]; simp [zMi, zUp, upd]) (zE_mi (fun j hj => zUp_n g _ (by omega)) (fun r hr hne => by rcases (show r = 0 ∨ r = 1 ∨ r = 2 ∨ r = 3 ∨ r = 4 ∨ r = 5 ∨ r = 6 ∨ r = 7 ∨ r = 8 ∨ r = 9 ∨ r = 10 by omega) with rfl | rfl | rfl | rfl | rfl | rfl | rfl | rfl | rfl | rfl | rfl <;> first | (exact absurd rfl hne) | (exact zMi_9 (fun j h1 h2 => zUp_n g _ (by omega))) | simp [zMi, zUp, upd])) hdg kk
theorem gf_X2_at (X : zC p m c cc nL s args own D k a) (hH : zH D k a s g H locs)  {idx : Nat} (hl : .fieldLink own idx "KeptPlans$QuestionText" "at" "I" ∈ GW) (hdg : decode cc pc = .ok (.getfield idx, 3))
    (kk : W p l e R s m args below meth c H locs cells slots Q (F0 m (pc + 3) ls (.int (g 6 4) :: rest))) : W p l e R s m args below meth c H locs cells slots Q (F0 m pc ls (.ref (a 6 3) :: rest)) :=
  z_get X hH (C := RX2) (T := TX2) (N := 7) (by omega) (by omega) (zE_m) rfl inX2 6 (by omega) rfl hl rfl hdg kk
theorem pf_X2_at (X : zC p m c cc nL s args own D k a) (hH : zH D k a s g H locs)  {idx : Nat} {x : Int32}  (hl : .fieldLink own idx "KeptPlans$QuestionText" "at" "I" ∈ GW) (hdg : decode cc pc = .ok (.putfield idx, 3))
    (kk : ∀ (H1 : Heap) (locs1 : List Loc), zH D k a s (zUp g 6 (upd (g 6) 4 x)) H1 locs1 → W p l e R s m args below meth c H1 locs1 cells slots Q (F0 m (pc + 3) ls rest)) : W p l e R s m args below meth c H locs cells slots Q (F0 m pc ls (.int x :: .ref (a 6 3) :: rest)) :=
  z_put X hH (C := RX2) (T := TX2) (N := 7) (by omega) (by omega) (zE_m) rfl inX2 tyX2 tyX2_ok nmX2 6 (by omega) rfl hl rfl (ty := .int) (by decide +kernel) rfl rfl (by simp [zMi]) (zUp g 6 (upd (g 6) 4 x)) (by rw [zE_m]; simp [zMi, zUp, upd]) (zE_mi (fun j hj => zUp_n g _ (by omega)) (fun r hr hne => by rcases (show r = 0 ∨ r = 1 ∨ r = 2 ∨ r = 3 ∨ r = 4 ∨ r = 5 ∨ r = 6 ∨ r = 7 ∨ r = 8 ∨ r = 9 ∨ r = 10 by omega) with rfl | rfl | rfl | rfl | rfl | rfl | rfl | rfl | rfl | rfl | rfl <;> first | (exact absurd rfl hne) | (exact zMi_9 (fun j h1 h2 => zUp_n g _ (by omega))) | simp [zMi, zUp, upd])) hdg kk
theorem gf_X6_s (X : zC p m c cc nL s args own D k a) (hH : zH D k a s g H locs)  {idx : Nat} (hl : .fieldLink own idx "KeptPlansModel" "s" "[I" ∈ GW) (hdg : decode cc pc = .ok (.getfield idx, 3))
    (kk : W p l e R s m args below meth c H locs cells slots Q (F0 m (pc + 3) ls (.ref (a 6 9) :: rest))) : W p l e R s m args below meth c H locs cells slots Q (F0 m pc ls (.ref (a 6 8) :: rest)) :=
  z_get X hH (C := RX6) (T := TX6) (N := 12) (by omega) (by omega) (zE_m) rfl inX6 0 (by omega) rfl hl rfl hdg kk
theorem gf_X6_states (X : zC p m c cc nL s args own D k a) (hH : zH D k a s g H locs)  {idx : Nat} (hl : .fieldLink own idx "KeptPlansModel" "states" "I" ∈ GW) (hdg : decode cc pc = .ok (.getfield idx, 3))
    (kk : W p l e R s m args below meth c H locs cells slots Q (F0 m (pc + 3) ls (.int (g 18 0) :: rest))) : W p l e R s m args below meth c H locs cells slots Q (F0 m pc ls (.ref (a 6 8) :: rest)) :=
  z_get X hH (C := RX6) (T := TX6) (N := 12) (by omega) (by omega) (zE_m) rfl inX6 1 (by omega) rfl hl rfl hdg kk
theorem pf_X6_states (X : zC p m c cc nL s args own D k a) (hH : zH D k a s g H locs)  {idx : Nat} {x : Int32}  (hl : .fieldLink own idx "KeptPlansModel" "states" "I" ∈ GW) (hdg : decode cc pc = .ok (.putfield idx, 3))
    (kk : ∀ (H1 : Heap) (locs1 : List Loc), zH D k a s (zUp g 18 (upd (g 18) 0 x)) H1 locs1 → W p l e R s m args below meth c H1 locs1 cells slots Q (F0 m (pc + 3) ls rest)) : W p l e R s m args below meth c H locs cells slots Q (F0 m pc ls (.int x :: .ref (a 6 8) :: rest)) :=
  z_put X hH (C := RX6) (T := TX6) (N := 12) (by omega) (by omega) (zE_m) rfl inX6 tyX6 tyX6_ok nmX6 1 (by omega) rfl hl rfl (ty := .int) (by decide +kernel) rfl rfl (by simp [zMi]) (zUp g 18 (upd (g 18) 0 x)) (by rw [zE_m]; simp [zMi, zUp, upd]) (zE_mi (fun j hj => zUp_n g _ (by omega)) (fun r hr hne => by rcases (show r = 0 ∨ r = 1 ∨ r = 2 ∨ r = 3 ∨ r = 4 ∨ r = 5 ∨ r = 6 ∨ r = 7 ∨ r = 8 ∨ r = 9 ∨ r = 10 by omega) with rfl | rfl | rfl | rfl | rfl | rfl | rfl | rfl | rfl | rfl | rfl <;> first | (exact absurd rfl hne) | (exact zMi_9 (fun j h1 h2 => zUp_n g _ (by omega))) | simp [zMi, zUp, upd])) hdg kk
theorem gf_X6_isKept (X : zC p m c cc nL s args own D k a) (hH : zH D k a s g H locs)  {idx : Nat} (hl : .fieldLink own idx "KeptPlansModel" "isKept" "Z" ∈ GW) (hdg : decode cc pc = .ok (.getfield idx, 3))
    (kk : W p l e R s m args below meth c H locs cells slots Q (F0 m (pc + 3) ls (.int (g 18 1) :: rest))) : W p l e R s m args below meth c H locs cells slots Q (F0 m pc ls (.ref (a 6 8) :: rest)) :=
  z_get X hH (C := RX6) (T := TX6) (N := 12) (by omega) (by omega) (zE_m) rfl inX6 2 (by omega) rfl hl rfl hdg kk
theorem pf_X6_isKept (X : zC p m c cc nL s args own D k a) (hH : zH D k a s g H locs)  {idx : Nat} {x : Int32} (hx : x = 0 ∨ x = 1) (hl : .fieldLink own idx "KeptPlansModel" "isKept" "Z" ∈ GW) (hdg : decode cc pc = .ok (.putfield idx, 3))
    (kk : ∀ (H1 : Heap) (locs1 : List Loc), zH D k a s (zUp g 18 (upd (g 18) 1 x)) H1 locs1 → W p l e R s m args below meth c H1 locs1 cells slots Q (F0 m (pc + 3) ls rest)) : W p l e R s m args below meth c H locs cells slots Q (F0 m pc ls (.int x :: .ref (a 6 8) :: rest)) :=
  z_put X hH (C := RX6) (T := TX6) (N := 12) (by omega) (by omega) (zE_m) rfl inX6 tyX6 tyX6_ok nmX6 2 (by omega) rfl hl rfl (ty := .boolean) (by decide +kernel) (by rcases hx with rfl | rfl <;> rfl) (by rcases hx with rfl | rfl <;> rfl) (by simp [zMi]) (zUp g 18 (upd (g 18) 1 x)) (by rw [zE_m]; simp [zMi, zUp, upd]) (zE_mi (fun j hj => zUp_n g _ (by omega)) (fun r hr hne => by rcases (show r = 0 ∨ r = 1 ∨ r = 2 ∨ r = 3 ∨ r = 4 ∨ r = 5 ∨ r = 6 ∨ r = 7 ∨ r = 8 ∨ r = 9 ∨ r = 10 by omega) with rfl | rfl | rfl | rfl | rfl | rfl | rfl | rfl | rfl | rfl | rfl <;> first | (exact absurd rfl hne) | (exact zMi_9 (fun j h1 h2 => zUp_n g _ (by omega))) | simp [zMi, zUp, upd])) hdg kk
theorem gf_X6_text (X : zC p m c cc nL s args own D k a) (hH : zH D k a s g H locs)  {idx : Nat} (hl : .fieldLink own idx "KeptPlansModel" "text" "[C" ∈ GW) (hdg : decode cc pc = .ok (.getfield idx, 3))
    (kk : W p l e R s m args below meth c H locs cells slots Q (F0 m (pc + 3) ls (.ref (a 6 10) :: rest))) : W p l e R s m args below meth c H locs cells slots Q (F0 m pc ls (.ref (a 6 8) :: rest)) :=
  z_get X hH (C := RX6) (T := TX6) (N := 12) (by omega) (by omega) (zE_m) rfl inX6 3 (by omega) rfl hl rfl hdg kk
theorem gf_X6_typed (X : zC p m c cc nL s args own D k a) (hH : zH D k a s g H locs)  {idx : Nat} (hl : .fieldLink own idx "KeptPlansModel" "typed" "I" ∈ GW) (hdg : decode cc pc = .ok (.getfield idx, 3))
    (kk : W p l e R s m args below meth c H locs cells slots Q (F0 m (pc + 3) ls (.int (g 18 2) :: rest))) : W p l e R s m args below meth c H locs cells slots Q (F0 m pc ls (.ref (a 6 8) :: rest)) :=
  z_get X hH (C := RX6) (T := TX6) (N := 12) (by omega) (by omega) (zE_m) rfl inX6 4 (by omega) rfl hl rfl hdg kk
theorem pf_X6_typed (X : zC p m c cc nL s args own D k a) (hH : zH D k a s g H locs)  {idx : Nat} {x : Int32}  (hl : .fieldLink own idx "KeptPlansModel" "typed" "I" ∈ GW) (hdg : decode cc pc = .ok (.putfield idx, 3))
    (kk : ∀ (H1 : Heap) (locs1 : List Loc), zH D k a s (zUp g 18 (upd (g 18) 2 x)) H1 locs1 → W p l e R s m args below meth c H1 locs1 cells slots Q (F0 m (pc + 3) ls rest)) : W p l e R s m args below meth c H locs cells slots Q (F0 m pc ls (.int x :: .ref (a 6 8) :: rest)) :=
  z_put X hH (C := RX6) (T := TX6) (N := 12) (by omega) (by omega) (zE_m) rfl inX6 tyX6 tyX6_ok nmX6 4 (by omega) rfl hl rfl (ty := .int) (by decide +kernel) rfl rfl (by simp [zMi]) (zUp g 18 (upd (g 18) 2 x)) (by rw [zE_m]; simp [zMi, zUp, upd]) (zE_mi (fun j hj => zUp_n g _ (by omega)) (fun r hr hne => by rcases (show r = 0 ∨ r = 1 ∨ r = 2 ∨ r = 3 ∨ r = 4 ∨ r = 5 ∨ r = 6 ∨ r = 7 ∨ r = 8 ∨ r = 9 ∨ r = 10 by omega) with rfl | rfl | rfl | rfl | rfl | rfl | rfl | rfl | rfl | rfl | rfl <;> first | (exact absurd rfl hne) | (exact zMi_9 (fun j h1 h2 => zUp_n g _ (by omega))) | simp [zMi, zUp, upd])) hdg kk
theorem gf_X6_at (X : zC p m c cc nL s args own D k a) (hH : zH D k a s g H locs)  {idx : Nat} (hl : .fieldLink own idx "KeptPlansModel" "at" "I" ∈ GW) (hdg : decode cc pc = .ok (.getfield idx, 3))
    (kk : W p l e R s m args below meth c H locs cells slots Q (F0 m (pc + 3) ls (.int (g 18 3) :: rest))) : W p l e R s m args below meth c H locs cells slots Q (F0 m pc ls (.ref (a 6 8) :: rest)) :=
  z_get X hH (C := RX6) (T := TX6) (N := 12) (by omega) (by omega) (zE_m) rfl inX6 5 (by omega) rfl hl rfl hdg kk
theorem pf_X6_at (X : zC p m c cc nL s args own D k a) (hH : zH D k a s g H locs)  {idx : Nat} {x : Int32}  (hl : .fieldLink own idx "KeptPlansModel" "at" "I" ∈ GW) (hdg : decode cc pc = .ok (.putfield idx, 3))
    (kk : ∀ (H1 : Heap) (locs1 : List Loc), zH D k a s (zUp g 18 (upd (g 18) 3 x)) H1 locs1 → W p l e R s m args below meth c H1 locs1 cells slots Q (F0 m (pc + 3) ls rest)) : W p l e R s m args below meth c H locs cells slots Q (F0 m pc ls (.int x :: .ref (a 6 8) :: rest)) :=
  z_put X hH (C := RX6) (T := TX6) (N := 12) (by omega) (by omega) (zE_m) rfl inX6 tyX6 tyX6_ok nmX6 5 (by omega) rfl hl rfl (ty := .int) (by decide +kernel) rfl rfl (by simp [zMi]) (zUp g 18 (upd (g 18) 3 x)) (by rw [zE_m]; simp [zMi, zUp, upd]) (zE_mi (fun j hj => zUp_n g _ (by omega)) (fun r hr hne => by rcases (show r = 0 ∨ r = 1 ∨ r = 2 ∨ r = 3 ∨ r = 4 ∨ r = 5 ∨ r = 6 ∨ r = 7 ∨ r = 8 ∨ r = 9 ∨ r = 10 by omega) with rfl | rfl | rfl | rfl | rfl | rfl | rfl | rfl | rfl | rfl | rfl <;> first | (exact absurd rfl hne) | (exact zMi_9 (fun j h1 h2 => zUp_n g _ (by omega))) | simp [zMi, zUp, upd])) hdg kk
theorem gf_X6_order (X : zC p m c cc nL s args own D k a) (hH : zH D k a s g H locs)  {idx : Nat} (hl : .fieldLink own idx "KeptPlansModel" "order" "I" ∈ GW) (hdg : decode cc pc = .ok (.getfield idx, 3))
    (kk : W p l e R s m args below meth c H locs cells slots Q (F0 m (pc + 3) ls (.int (g 18 4) :: rest))) : W p l e R s m args below meth c H locs cells slots Q (F0 m pc ls (.ref (a 6 8) :: rest)) :=
  z_get X hH (C := RX6) (T := TX6) (N := 12) (by omega) (by omega) (zE_m) rfl inX6 6 (by omega) rfl hl rfl hdg kk
theorem pf_X6_order (X : zC p m c cc nL s args own D k a) (hH : zH D k a s g H locs)  {idx : Nat} {x : Int32}  (hl : .fieldLink own idx "KeptPlansModel" "order" "I" ∈ GW) (hdg : decode cc pc = .ok (.putfield idx, 3))
    (kk : ∀ (H1 : Heap) (locs1 : List Loc), zH D k a s (zUp g 18 (upd (g 18) 4 x)) H1 locs1 → W p l e R s m args below meth c H1 locs1 cells slots Q (F0 m (pc + 3) ls rest)) : W p l e R s m args below meth c H locs cells slots Q (F0 m pc ls (.int x :: .ref (a 6 8) :: rest)) :=
  z_put X hH (C := RX6) (T := TX6) (N := 12) (by omega) (by omega) (zE_m) rfl inX6 tyX6 tyX6_ok nmX6 6 (by omega) rfl hl rfl (ty := .int) (by decide +kernel) rfl rfl (by simp [zMi]) (zUp g 18 (upd (g 18) 4 x)) (by rw [zE_m]; simp [zMi, zUp, upd]) (zE_mi (fun j hj => zUp_n g _ (by omega)) (fun r hr hne => by rcases (show r = 0 ∨ r = 1 ∨ r = 2 ∨ r = 3 ∨ r = 4 ∨ r = 5 ∨ r = 6 ∨ r = 7 ∨ r = 8 ∨ r = 9 ∨ r = 10 by omega) with rfl | rfl | rfl | rfl | rfl | rfl | rfl | rfl | rfl | rfl | rfl <;> first | (exact absurd rfl hne) | (exact zMi_9 (fun j h1 h2 => zUp_n g _ (by omega))) | simp [zMi, zUp, upd])) hdg kk
theorem gf_X6_table (X : zC p m c cc nL s args own D k a) (hH : zH D k a s g H locs)  {idx : Nat} (hl : .fieldLink own idx "KeptPlansModel" "table" "I" ∈ GW) (hdg : decode cc pc = .ok (.getfield idx, 3))
    (kk : W p l e R s m args below meth c H locs cells slots Q (F0 m (pc + 3) ls (.int (g 18 5) :: rest))) : W p l e R s m args below meth c H locs cells slots Q (F0 m pc ls (.ref (a 6 8) :: rest)) :=
  z_get X hH (C := RX6) (T := TX6) (N := 12) (by omega) (by omega) (zE_m) rfl inX6 7 (by omega) rfl hl rfl hdg kk
theorem pf_X6_table (X : zC p m c cc nL s args own D k a) (hH : zH D k a s g H locs)  {idx : Nat} {x : Int32}  (hl : .fieldLink own idx "KeptPlansModel" "table" "I" ∈ GW) (hdg : decode cc pc = .ok (.putfield idx, 3))
    (kk : ∀ (H1 : Heap) (locs1 : List Loc), zH D k a s (zUp g 18 (upd (g 18) 5 x)) H1 locs1 → W p l e R s m args below meth c H1 locs1 cells slots Q (F0 m (pc + 3) ls rest)) : W p l e R s m args below meth c H locs cells slots Q (F0 m pc ls (.int x :: .ref (a 6 8) :: rest)) :=
  z_put X hH (C := RX6) (T := TX6) (N := 12) (by omega) (by omega) (zE_m) rfl inX6 tyX6 tyX6_ok nmX6 7 (by omega) rfl hl rfl (ty := .int) (by decide +kernel) rfl rfl (by simp [zMi]) (zUp g 18 (upd (g 18) 5 x)) (by rw [zE_m]; simp [zMi, zUp, upd]) (zE_mi (fun j hj => zUp_n g _ (by omega)) (fun r hr hne => by rcases (show r = 0 ∨ r = 1 ∨ r = 2 ∨ r = 3 ∨ r = 4 ∨ r = 5 ∨ r = 6 ∨ r = 7 ∨ r = 8 ∨ r = 9 ∨ r = 10 by omega) with rfl | rfl | rfl | rfl | rfl | rfl | rfl | rfl | rfl | rfl | rfl <;> first | (exact absurd rfl hne) | (exact zMi_9 (fun j h1 h2 => zUp_n g _ (by omega))) | simp [zMi, zUp, upd])) hdg kk
theorem gf_X6_number (X : zC p m c cc nL s args own D k a) (hH : zH D k a s g H locs)  {idx : Nat} (hl : .fieldLink own idx "KeptPlansModel" "number" "I" ∈ GW) (hdg : decode cc pc = .ok (.getfield idx, 3))
    (kk : W p l e R s m args below meth c H locs cells slots Q (F0 m (pc + 3) ls (.int (g 18 6) :: rest))) : W p l e R s m args below meth c H locs cells slots Q (F0 m pc ls (.ref (a 6 8) :: rest)) :=
  z_get X hH (C := RX6) (T := TX6) (N := 12) (by omega) (by omega) (zE_m) rfl inX6 8 (by omega) rfl hl rfl hdg kk
theorem pf_X6_number (X : zC p m c cc nL s args own D k a) (hH : zH D k a s g H locs)  {idx : Nat} {x : Int32}  (hl : .fieldLink own idx "KeptPlansModel" "number" "I" ∈ GW) (hdg : decode cc pc = .ok (.putfield idx, 3))
    (kk : ∀ (H1 : Heap) (locs1 : List Loc), zH D k a s (zUp g 18 (upd (g 18) 6 x)) H1 locs1 → W p l e R s m args below meth c H1 locs1 cells slots Q (F0 m (pc + 3) ls rest)) : W p l e R s m args below meth c H locs cells slots Q (F0 m pc ls (.int x :: .ref (a 6 8) :: rest)) :=
  z_put X hH (C := RX6) (T := TX6) (N := 12) (by omega) (by omega) (zE_m) rfl inX6 tyX6 tyX6_ok nmX6 8 (by omega) rfl hl rfl (ty := .int) (by decide +kernel) rfl rfl (by simp [zMi]) (zUp g 18 (upd (g 18) 6 x)) (by rw [zE_m]; simp [zMi, zUp, upd]) (zE_mi (fun j hj => zUp_n g _ (by omega)) (fun r hr hne => by rcases (show r = 0 ∨ r = 1 ∨ r = 2 ∨ r = 3 ∨ r = 4 ∨ r = 5 ∨ r = 6 ∨ r = 7 ∨ r = 8 ∨ r = 9 ∨ r = 10 by omega) with rfl | rfl | rfl | rfl | rfl | rfl | rfl | rfl | rfl | rfl | rfl <;> first | (exact absurd rfl hne) | (exact zMi_9 (fun j h1 h2 => zUp_n g _ (by omega))) | simp [zMi, zUp, upd])) hdg kk
theorem gf_X6_way (X : zC p m c cc nL s args own D k a) (hH : zH D k a s g H locs)  {idx : Nat} (hl : .fieldLink own idx "KeptPlansModel" "way" "I" ∈ GW) (hdg : decode cc pc = .ok (.getfield idx, 3))
    (kk : W p l e R s m args below meth c H locs cells slots Q (F0 m (pc + 3) ls (.int (g 18 7) :: rest))) : W p l e R s m args below meth c H locs cells slots Q (F0 m pc ls (.ref (a 6 8) :: rest)) :=
  z_get X hH (C := RX6) (T := TX6) (N := 12) (by omega) (by omega) (zE_m) rfl inX6 9 (by omega) rfl hl rfl hdg kk
theorem pf_X6_way (X : zC p m c cc nL s args own D k a) (hH : zH D k a s g H locs)  {idx : Nat} {x : Int32}  (hl : .fieldLink own idx "KeptPlansModel" "way" "I" ∈ GW) (hdg : decode cc pc = .ok (.putfield idx, 3))
    (kk : ∀ (H1 : Heap) (locs1 : List Loc), zH D k a s (zUp g 18 (upd (g 18) 7 x)) H1 locs1 → W p l e R s m args below meth c H1 locs1 cells slots Q (F0 m (pc + 3) ls rest)) : W p l e R s m args below meth c H locs cells slots Q (F0 m pc ls (.int x :: .ref (a 6 8) :: rest)) :=
  z_put X hH (C := RX6) (T := TX6) (N := 12) (by omega) (by omega) (zE_m) rfl inX6 tyX6 tyX6_ok nmX6 9 (by omega) rfl hl rfl (ty := .int) (by decide +kernel) rfl rfl (by simp [zMi]) (zUp g 18 (upd (g 18) 7 x)) (by rw [zE_m]; simp [zMi, zUp, upd]) (zE_mi (fun j hj => zUp_n g _ (by omega)) (fun r hr hne => by rcases (show r = 0 ∨ r = 1 ∨ r = 2 ∨ r = 3 ∨ r = 4 ∨ r = 5 ∨ r = 6 ∨ r = 7 ∨ r = 8 ∨ r = 9 ∨ r = 10 by omega) with rfl | rfl | rfl | rfl | rfl | rfl | rfl | rfl | rfl | rfl | rfl <;> first | (exact absurd rfl hne) | (exact zMi_9 (fun j h1 h2 => zUp_n g _ (by omega))) | simp [zMi, zUp, upd])) hdg kk
theorem gf_X6_isBad (X : zC p m c cc nL s args own D k a) (hH : zH D k a s g H locs)  {idx : Nat} (hl : .fieldLink own idx "KeptPlansModel" "isBad" "Z" ∈ GW) (hdg : decode cc pc = .ok (.getfield idx, 3))
    (kk : W p l e R s m args below meth c H locs cells slots Q (F0 m (pc + 3) ls (.int (g 18 8) :: rest))) : W p l e R s m args below meth c H locs cells slots Q (F0 m pc ls (.ref (a 6 8) :: rest)) :=
  z_get X hH (C := RX6) (T := TX6) (N := 12) (by omega) (by omega) (zE_m) rfl inX6 10 (by omega) rfl hl rfl hdg kk
theorem pf_X6_isBad (X : zC p m c cc nL s args own D k a) (hH : zH D k a s g H locs)  {idx : Nat} {x : Int32} (hx : x = 0 ∨ x = 1) (hl : .fieldLink own idx "KeptPlansModel" "isBad" "Z" ∈ GW) (hdg : decode cc pc = .ok (.putfield idx, 3))
    (kk : ∀ (H1 : Heap) (locs1 : List Loc), zH D k a s (zUp g 18 (upd (g 18) 8 x)) H1 locs1 → W p l e R s m args below meth c H1 locs1 cells slots Q (F0 m (pc + 3) ls rest)) : W p l e R s m args below meth c H locs cells slots Q (F0 m pc ls (.int x :: .ref (a 6 8) :: rest)) :=
  z_put X hH (C := RX6) (T := TX6) (N := 12) (by omega) (by omega) (zE_m) rfl inX6 tyX6 tyX6_ok nmX6 10 (by omega) rfl hl rfl (ty := .boolean) (by decide +kernel) (by rcases hx with rfl | rfl <;> rfl) (by rcases hx with rfl | rfl <;> rfl) (by simp [zMi]) (zUp g 18 (upd (g 18) 8 x)) (by rw [zE_m]; simp [zMi, zUp, upd]) (zE_mi (fun j hj => zUp_n g _ (by omega)) (fun r hr hne => by rcases (show r = 0 ∨ r = 1 ∨ r = 2 ∨ r = 3 ∨ r = 4 ∨ r = 5 ∨ r = 6 ∨ r = 7 ∨ r = 8 ∨ r = 9 ∨ r = 10 by omega) with rfl | rfl | rfl | rfl | rfl | rfl | rfl | rfl | rfl | rfl | rfl <;> first | (exact absurd rfl hne) | (exact zMi_9 (fun j h1 h2 => zUp_n g _ (by omega))) | simp [zMi, zUp, upd])) hdg kk
theorem gf_X6_gone (X : zC p m c cc nL s args own D k a) (hH : zH D k a s g H locs)  {idx : Nat} (hl : .fieldLink own idx "KeptPlansModel" "gone" "I" ∈ GW) (hdg : decode cc pc = .ok (.getfield idx, 3))
    (kk : W p l e R s m args below meth c H locs cells slots Q (F0 m (pc + 3) ls (.int (g 18 9) :: rest))) : W p l e R s m args below meth c H locs cells slots Q (F0 m pc ls (.ref (a 6 8) :: rest)) :=
  z_get X hH (C := RX6) (T := TX6) (N := 12) (by omega) (by omega) (zE_m) rfl inX6 11 (by omega) rfl hl rfl hdg kk
theorem pf_X6_gone (X : zC p m c cc nL s args own D k a) (hH : zH D k a s g H locs)  {idx : Nat} {x : Int32}  (hl : .fieldLink own idx "KeptPlansModel" "gone" "I" ∈ GW) (hdg : decode cc pc = .ok (.putfield idx, 3))
    (kk : ∀ (H1 : Heap) (locs1 : List Loc), zH D k a s (zUp g 18 (upd (g 18) 9 x)) H1 locs1 → W p l e R s m args below meth c H1 locs1 cells slots Q (F0 m (pc + 3) ls rest)) : W p l e R s m args below meth c H locs cells slots Q (F0 m pc ls (.int x :: .ref (a 6 8) :: rest)) :=
  z_put X hH (C := RX6) (T := TX6) (N := 12) (by omega) (by omega) (zE_m) rfl inX6 tyX6 tyX6_ok nmX6 11 (by omega) rfl hl rfl (ty := .int) (by decide +kernel) rfl rfl (by simp [zMi]) (zUp g 18 (upd (g 18) 9 x)) (by rw [zE_m]; simp [zMi, zUp, upd]) (zE_mi (fun j hj => zUp_n g _ (by omega)) (fun r hr hne => by rcases (show r = 0 ∨ r = 1 ∨ r = 2 ∨ r = 3 ∨ r = 4 ∨ r = 5 ∨ r = 6 ∨ r = 7 ∨ r = 8 ∨ r = 9 ∨ r = 10 by omega) with rfl | rfl | rfl | rfl | rfl | rfl | rfl | rfl | rfl | rfl | rfl <;> first | (exact absurd rfl hne) | (exact zMi_9 (fun j h1 h2 => zUp_n g _ (by omega))) | simp [zMi, zUp, upd])) hdg kk
end ZR
end
section
theorem qm_static : .static Lib.Math.min.name ∈ GW := q_255
theorem qm_init : .initialized "java/lang/Math" ∈ GW := q_8
theorem qm_code : .code Lib.Math.min.name Lib.Math.min.code 2 (some .int) ∈ GW := q_256
theorem qa_static : .static Lib.Math.abs.name ∈ GW := q_291
theorem qa_code : .code Lib.Math.abs.name Lib.Math.abs.code 1 (some .int) ∈ GW := q_292
/-! rows that call, read rows of the memory, count in Nat -/
def zLkV (own : String) (idx : Nat) (y : MethodName) (b : ByteArray) (n : Nat) (ret : Option FieldType) (na : Nat) : Prop := .methodLink own idx y ∈ GW ∧ .instanceMethod y ∈ GW ∧ .selects y.cls y y ∈ GW ∧ .initialized y.cls ∈ GW ∧ .code y b n ret ∈ GW ∧ (y.cls ≠ "java/lang/invoke/MethodHandle" ∧ y.cls ≠ "java/lang/invoke/VarHandle" ∧ (parseMethodDescriptor y.desc).map (fun d => d.parameters.length) = some na)
def zLkS (own : String) (idx : Nat) (y : MethodName) (b : ByteArray) (n : Nat) (ret : Option FieldType) (na : Nat) : Prop := .methodLink own idx y ∈ GW ∧ .static y ∈ GW ∧ .initialized y.cls ∈ GW ∧ .code y b n ret ∈ GW ∧ (y.cls ≠ "java/lang/invoke/MethodHandle" ∧ y.cls ≠ "java/lang/invoke/VarHandle" ∧ (parseMethodDescriptor y.desc).map (fun d => d.parameters.length) = some na)
def zLkN (y : MethodName) (b : ByteArray) (n : Nat) (ret : Option FieldType) (na : Nat) : Prop := .static y ∈ GW ∧ .initialized y.cls ∈ GW ∧ .code y b n ret ∈ GW ∧ (y.cls ≠ "java/lang/invoke/MethodHandle" ∧ y.cls ≠ "java/lang/invoke/VarHandle" ∧ (parseMethodDescriptor y.desc).map (fun d => d.parameters.length) = some na)
section ZC
variable {p : Program} {l : Launch} {e : Env} {R : Room} {s : State} {m : MethodId} {args : Array Value} {below : List Frame} {meth : Method} {c : Code} {H : Heap} {locs : List Loc} {cells slots : Nat} {Q : State → Prop}
variable {cc : ByteArray} {nL : Nat} {own : String} {pc : Nat} {ls : Array Slot} {rest st : List Value} {D : va_G} {k : Nat → ClassId} {a : Nat → Nat → Nat} {g : Mem}
variable {y : MethodName} {b : ByteArray} {n fr lo na idx : Nat} {ret : FieldType} {As : List Value}
theorem z_pre (X : zC p m c cc nL s args own D k a) (hH : zH D k a s g H locs) : ∀ U : State, U.heap = H → s.WarmedH U.vm → va_Pc As (zPc D k a g) As.toArray U := by
  obtain ⟨-, hK, hI, hX⟩ := X
  intro U hU hW
  refine ⟨rfl, by rw [hU]; exact hH.1, va_K.moved hW.alike hK, hI, hX.go hW (fun q h1 h2 => by rw [hU]; exact hH.2.2.1 q h1 h2)⟩
theorem z_cwV (X : zC p m c cc nL s args own D k a) {r : Option FieldType} (lk : zLkV own idx y b n r na) (hR : fr + 1 ≤ R.frames ∧ 8 + (n + 11) + lo ≤ R.locals) : CallW R s args own y.cls idx y b n r (.code y b n r :: GW) (zRoom fr lo) 0 0 na := by
  obtain ⟨⟨-, -, -, -, hts⟩, -⟩ := X
  obtain ⟨h1, h2, h3, h4, h5, h6⟩ := lk
  exact ⟨callB_of na hts (zGood (y := y) (b := b) (n := n) (r := r) h5) rfl rfl rfl (hts _ h4) (hts _ h1) h6 hR, hts _ h2, hts _ h3⟩
theorem z_cwS (X : zC p m c cc nL s args own D k a) {r : Option FieldType} (lk : zLkS own idx y b n r na) (hR : fr + 1 ≤ R.frames ∧ 8 + (n + 11) + lo ≤ R.locals) : CallB R s args own idx y b n r (.code y b n r :: GW) (zRoom fr lo) 0 0 na ∧ (Cond.static y).before args s = true := by
  obtain ⟨⟨-, -, -, -, hts⟩, -⟩ := X
  obtain ⟨h1, h2, h4, h5, h6⟩ := lk
  exact ⟨callB_of na hts (zGood (y := y) (b := b) (n := n) (r := r) h5) rfl rfl rfl (hts _ h4) (hts _ h1) h6 hR, hts _ h2⟩
theorem z_callVi {post : Int32 → Mem → Prop} {i q : Nat} (X : zC p m c cc nL s args own D k a) (hH : zH D k a s g H locs) (hM : zI l y b n ret fr lo D k a (.ref (a i q) :: As) g post) (lk : zLkV own idx y b n (some ret) na) (hrc : ∃ cell : Cell, H[a i q]? = some cell ∧ cell.vm.isStatics = false ∧ s.vm.findClass y.cls = some cell.cls) (rest : List Value) (hst : st = As.reverse ++ .ref (a i q) :: rest) (hna : As.length = na) (hls : ls.size = nL) (hw : (rest.map fun v => v.category).sum ≤ 8) (hR : fr + 1 ≤ R.frames ∧ 8 + (n + 11) + lo ≤ R.locals) (hcs : cells ≤ R.cells ∧ slots ≤ R.slots) (hdg : decode cc pc = .ok (.invokevirtual idx, 3))
    (kk : ∀ (r : Int32) (g' : Mem) (H1 : Heap) (locs1 : List Loc), post r g' → zH D k a s g' H1 locs1 → W p l e R s m args below meth c H1 locs1 cells slots Q (F0 m (pc + 3) ls (.int r :: rest))) : W p l e R s m args below meth c H locs cells slots Q (F0 m pc ls st) :=
  va_calli (va_runV X.1 hM (z_cwV X lk hR) ⟨zPc.blind, hrc, z_pre X hH⟩ rfl hna hls hst (lv_room hw) hdg hcs) hH.2 (fun _ _ h => h) (fun _ h => h) (fun r u t H1 locs1 ht hvm hw hB hz hk hS => kk r u H1 locs1 hw ⟨by rw [← ht]; exact hB, hS⟩)
theorem z_callVv {post : Mem → Prop} {i q : Nat} (X : zC p m c cc nL s args own D k a) (hH : zH D k a s g H locs) (hM : zV l y b n fr lo D k a (.ref (a i q) :: As) g post) (lk : zLkV own idx y b n none na) (hrc : ∃ cell : Cell, H[a i q]? = some cell ∧ cell.vm.isStatics = false ∧ s.vm.findClass y.cls = some cell.cls) (rest : List Value) (hst : st = As.reverse ++ .ref (a i q) :: rest) (hna : As.length = na) (hls : ls.size = nL) (hw : (rest.map fun v => v.category).sum ≤ 8) (hR : fr + 1 ≤ R.frames ∧ 8 + (n + 11) + lo ≤ R.locals) (hcs : cells ≤ R.cells ∧ slots ≤ R.slots) (hdg : decode cc pc = .ok (.invokevirtual idx, 3))
    (kk : ∀ (g' : Mem) (H1 : Heap) (locs1 : List Loc), post g' → zH D k a s g' H1 locs1 → W p l e R s m args below meth c H1 locs1 cells slots Q (F0 m (pc + 3) ls rest)) : W p l e R s m args below meth c H locs cells slots Q (F0 m pc ls st) :=
  va_callv (va_runV X.1 hM (z_cwV X lk hR) ⟨zPc.blind, hrc, z_pre X hH⟩ rfl hna hls hst (lv_room hw) hdg hcs) hH.2 (fun _ _ h => h) (fun _ h => h) (fun u t H1 locs1 ht hvm hw hB hz hk hS => kk u H1 locs1 hw ⟨by rw [← ht]; exact hB, hS⟩)
theorem z_callVr {ad : Nat} {i q : Nat} (X : zC p m c cc nL s args own D k a) (hH : zH D k a s g H locs) (hM : zR l y b n ret fr lo D k a (.ref (a i q) :: As) g ad) (lk : zLkV own idx y b n (some ret) na) (hrc : ∃ cell : Cell, H[a i q]? = some cell ∧ cell.vm.isStatics = false ∧ s.vm.findClass y.cls = some cell.cls) (rest : List Value) (hst : st = As.reverse ++ .ref (a i q) :: rest) (hna : As.length = na) (hls : ls.size = nL) (hw : (rest.map fun v => v.category).sum ≤ 8) (hR : fr + 1 ≤ R.frames ∧ 8 + (n + 11) + lo ≤ R.locals) (hcs : cells ≤ R.cells ∧ slots ≤ R.slots) (hdg : decode cc pc = .ok (.invokevirtual idx, 3))
    (kk : ∀ (H1 : Heap) (locs1 : List Loc), zH D k a s g H1 locs1 → W p l e R s m args below meth c H1 locs1 cells slots Q (F0 m (pc + 3) ls (.ref ad :: rest))) : W p l e R s m args below meth c H locs cells slots Q (F0 m pc ls st) :=
  va_callr (va_runV X.1 hM (z_cwV X lk hR) ⟨zPc.blind, hrc, z_pre X hH⟩ rfl hna hls hst (lv_room hw) hdg hcs) hH.2 (fun _ _ h => h) (fun _ h => h) (fun u ra t H1 locs1 ht hvm hw hB hz hk hS => by
    obtain ⟨rfl, hB⟩ := hB
    exact kk H1 locs1 ⟨by rw [← ht]; exact hB, hS⟩)
theorem z_callSi {post : Int32 → Mem → Prop} (X : zC p m c cc nL s args own D k a) (hH : zH D k a s g H locs) (hM : zI l y b n ret fr lo D k a As g post) (lk : zLkS own idx y b n (some ret) na) (rest : List Value) (hst : st = As.reverse ++ rest) (hna : As.length = na) (hls : ls.size = nL) (hw : (rest.map fun v => v.category).sum ≤ 8) (hR : fr + 1 ≤ R.frames ∧ 8 + (n + 11) + lo ≤ R.locals) (hcs : cells ≤ R.cells ∧ slots ≤ R.slots) (hdg : decode cc pc = .ok (.invokestatic idx, 3))
    (kk : ∀ (r : Int32) (g' : Mem) (H1 : Heap) (locs1 : List Loc), post r g' → zH D k a s g' H1 locs1 → W p l e R s m args below meth c H1 locs1 cells slots Q (F0 m (pc + 3) ls (.int r :: rest))) : W p l e R s m args below meth c H locs cells slots Q (F0 m pc ls st) :=
  va_calli (va_runS X.1 hM (z_cwS X lk hR) ⟨zPc.blind, z_pre X hH⟩ rfl hna hls hst (lv_room hw) hdg hcs) hH.2 (fun _ _ h => h) (fun _ h => h) (fun r u t H1 locs1 ht hvm hw hB hz hk hS => kk r u H1 locs1 hw ⟨by rw [← ht]; exact hB, hS⟩)
theorem z_callNi {post : Int32 → Mem → Prop} {host : String} (X : zC p m c cc nL s args own D k a) (hH : zH D k a s g H locs) (hM : zI l y b n ret fr lo D k a As g post) (lk : zLkN y b n (some ret) na) (hnw : va_Nw (.methodLinkNest own idx y host) s) (rest : List Value) (hst : st = As.reverse ++ rest) (hna : As.length = na) (hls : ls.size = nL) (hw : (rest.map fun v => v.category).sum ≤ 8) (hR : fr + 1 ≤ R.frames ∧ 8 + (n + 11) + lo ≤ R.locals) (hcs : cells ≤ R.cells ∧ slots ≤ R.slots) (hdg : decode cc pc = .ok (.invokestatic idx, 3))
    (kk : ∀ (r : Int32) (g' : Mem) (H1 : Heap) (locs1 : List Loc), post r g' → zH D k a s g' H1 locs1 → W p l e R s m args below meth c H1 locs1 cells slots Q (F0 m (pc + 3) ls (.int r :: rest))) : W p l e R s m args below meth c H locs cells slots Q (F0 m pc ls st) := by
  have hts := X.1.2.2.2.2
  obtain ⟨h2, h4, h5, h6⟩ := lk
  exact va_calli (va_runSN X.1 hM ⟨va_cnB na hts (zGood (y := y) (b := b) (n := n) (r := some ret) h5) rfl rfl rfl hnw (hts _ h4) h6 hR, hts _ h2, trivial⟩ ⟨zPc.blind, z_pre X hH⟩ rfl hna hls hst (lv_room hw) hdg hcs) hH.2 (fun _ _ h => h) (fun _ h => h) (fun r u t H1 locs1 ht hvm hw hB hz hk hS => kk r u H1 locs1 hw ⟨by rw [← ht]; exact hB, hS⟩)
theorem z_min (X : zC p m c cc nL s args own D k a) (hl : .methodLink own idx Lib.Math.min.name ∈ GW) (hls : ls.size = nL) (hfr : 1 ≤ R.frames) (hlo : (rest.map fun v => v.category).sum + 13 ≤ R.locals) (hcs : cells ≤ R.cells ∧ slots ≤ R.slots) {x z : Int32} (hdg : decode cc pc = .ok (.invokestatic idx, 3))
    (kk : W p l e R s m args below meth c H locs cells slots Q (F0 m (pc + 3) ls (.int (if z < x then z else x) :: rest))) : W p l e R s m args below meth c H locs cells slots Q (F0 m pc ls (.int z :: .int x :: rest)) := by
  obtain ⟨⟨hx, hb, hml, hown, hts⟩, -⟩ := X
  exact va_mmin hx hb (hml.trans hls.symm) hown (hts _ hl) (hts _ qm_static) (hts _ qm_init) (hts _ qm_code) hfr hlo hcs.1 hcs.2 hdg kk
theorem z_abs (X : zC p m c cc nL s args own D k a) (hl : .methodLink own idx Lib.Math.abs.name ∈ GW) (hls : ls.size = nL) (hfr : 1 ≤ R.frames) (hlo : (rest.map fun v => v.category).sum + 13 ≤ R.locals) (hcs : cells ≤ R.cells ∧ slots ≤ R.slots) {x : Int32} (hdg : decode cc pc = .ok (.invokestatic idx, 3))
    (kk : W p l e R s m args below meth c H locs cells slots Q (F0 m (pc + 3) ls (.int (if 0 ≤ x then x else 0 - x) :: rest))) : W p l e R s m args below meth c H locs cells slots Q (F0 m pc ls (.int x :: rest)) := by
  obtain ⟨⟨hx, hb, hml, hown, hts⟩, -⟩ := X
  exact va_mabs hx hb (hml.trans hls.symm) hown (hts _ hl) (hts _ qa_static) (hts _ qm_init) (hts _ qa_code) hfr hlo hcs.1 hcs.2 hdg kk
/-! receivers -/
theorem rv_X3 (X : zC p m c cc nL s args own D k a) (hH : zH D k a s g H locs) {i : Nat} (hi : i < 6) : ∃ cell : Cell, H[a i 0]? = some cell ∧ cell.vm.isStatics = false ∧ s.vm.findClass RX3 = some cell.cls := z_recv X hH (by omega) (by omega) (zE_state hi) rfl
theorem rv_X4 (X : zC p m c cc nL s args own D k a) (hH : zH D k a s g H locs) {i t : Nat} (hi : i < 6) (ht : t < 4) : ∃ cell : Cell, H[a i (4 + t)]? = some cell ∧ cell.vm.isStatics = false ∧ s.vm.findClass RX4 = some cell.cls := z_recv X hH (by omega) (by omega) (zE_table hi ht) rfl
theorem rv_X1 (X : zC p m c cc nL s args own D k a) (hH : zH D k a s g H locs) {i t : Nat} (hi : i < 6) (ht : t < 12) : ∃ cell : Cell, H[a i (8 + t)]? = some cell ∧ cell.vm.isStatics = false ∧ s.vm.findClass RX1 = some cell.cls := z_recv X hH (by omega) (by omega) (zE_plan hi) rfl
theorem rv_X5 (X : zC p m c cc nL s args own D k a) (hH : zH D k a s g H locs) : ∃ cell : Cell, H[a 6 0]? = some cell ∧ cell.vm.isStatics = false ∧ s.vm.findClass RX5 = some cell.cls := z_recv X hH (by omega) (by omega) zE_m rfl
theorem rv_X0 (X : zC p m c cc nL s args own D k a) (hH : zH D k a s g H locs) : ∃ cell : Cell, H[a 6 1]? = some cell ∧ cell.vm.isStatics = false ∧ s.vm.findClass RX0 = some cell.cls := z_recv X hH (by omega) (by omega) zE_m rfl
theorem rv_X2 (X : zC p m c cc nL s args own D k a) (hH : zH D k a s g H locs) : ∃ cell : Cell, H[a 6 3]? = some cell ∧ cell.vm.isStatics = false ∧ s.vm.findClass RX2 = some cell.cls := z_recv X hH (by omega) (by omega) zE_m rfl
theorem rv_X6 (X : zC p m c cc nL s args own D k a) (hH : zH D k a s g H locs) : ∃ cell : Cell, H[a 6 8]? = some cell ∧ cell.vm.isStatics = false ∧ s.vm.findClass RX6 = some cell.cls := z_recv X hH (by omega) (by omega) zE_m rfl
/-! rows of the memory -/
theorem ar_tabs (X : zC p m c cc nL s args own D k a) (hH : zH D k a s g H locs) {i : Nat} (hi : i < 6) (j : Nat) (hj : j < 4) (hdg : decode cc pc = .ok (.aaload, 1)) (kk : W p l e R s m args below meth c H locs cells slots Q (F0 m (pc + 1) ls (.ref (a i (4 + j)) :: rest))) : W p l e R s m args below meth c H locs cells slots Q (F0 m pc ls (.int (nI j) :: .ref (a i 1) :: rest)) :=
  z_aald X hH (by omega) (by omega) (zE_tabs hi) (t0 := 2) rfl (by omega) j hj rfl hdg kk
theorem ar_plans (X : zC p m c cc nL s args own D k a) (hH : zH D k a s g H locs) {i : Nat} (hi : i < 6) (j : Nat) (hj : j < 12) (hdg : decode cc pc = .ok (.aaload, 1)) (kk : W p l e R s m args below meth c H locs cells slots Q (F0 m (pc + 1) ls (.ref (a i (8 + j)) :: rest))) : W p l e R s m args below meth c H locs cells slots Q (F0 m pc ls (.int (nI j) :: .ref (a i 2) :: rest)) :=
  z_aald X hH (by omega) (by omega) (zE_plans hi) (t0 := 3) rfl (by omega) j hj rfl hdg kk
theorem ar_states (X : zC p m c cc nL s args own D k a) (hH : zH D k a s g H locs) (j : Nat) (hj : j < 4) (hdg : decode cc pc = .ok (.aaload, 1)) (kk : W p l e R s m args below meth c H locs cells slots Q (F0 m (pc + 1) ls (.ref (a (2 + j) 0) :: rest))) : W p l e R s m args below meth c H locs cells slots Q (F0 m pc ls (.int (nI j) :: .ref (a 6 2) :: rest)) :=
  z_aald (i := 6) (q := 2) X hH (by omega) (by omega) zE_m (t0 := 4) rfl (by omega) j hj rfl hdg kk
theorem ar_sets (X : zC p m c cc nL s args own D k a) (hH : zH D k a s g H locs) {i : Nat} (hi : i < 6) (j : Nat) (hj : j < 5) (hdg : decode cc pc = .ok (.iaload, 1)) (kk : W p l e R s m args below meth c H locs cells slots Q (F0 m (pc + 1) ls (.int (g i (8 + j)) :: rest))) : W p l e R s m args below meth c H locs cells slots Q (F0 m pc ls (.int (nI j) :: .ref (a i 3) :: rest)) :=
  z_iald X hH (by omega) (by omega) (zE_sets hi) (by omega) j hj hdg (by rw [if_pos hj]; exact kk)
theorem ar_signs (X : zC p m c cc nL s args own D k a) (hH : zH D k a s g H locs) (j : Nat) (hj : j < 80) (hdg : decode cc pc = .ok (.caload, 1)) (kk : W p l e R s m args below meth c H locs cells slots Q (F0 m (pc + 1) ls (.int (g 7 j) :: rest))) : W p l e R s m args below meth c H locs cells slots Q (F0 m pc ls (.int (nI j) :: .ref (a 6 4) :: rest)) :=
  z_cald (i := 6) (q := 4) X hH (by omega) (by omega) zE_m (by omega) j hj hdg kk
theorem ar_text (X : zC p m c cc nL s args own D k a) (hH : zH D k a s g H locs) (j : Nat) (hj : j < 80) (hdg : decode cc pc = .ok (.caload, 1)) (kk : W p l e R s m args below meth c H locs cells slots Q (F0 m (pc + 1) ls (.int (g 19 j) :: rest))) : W p l e R s m args below meth c H locs cells slots Q (F0 m pc ls (.int (nI j) :: .ref (a 6 10) :: rest)) :=
  z_cald (i := 6) (q := 10) X hH (by omega) (by omega) zE_m (by omega) j hj hdg kk
theorem ar_words (X : zC p m c cc nL s args own D k a) (hH : zH D k a s g H locs) (j : Nat) (hj : j < 11) (hdg : decode cc pc = .ok (.iaload, 1)) (kk : W p l e R s m args below meth c H locs cells slots Q (F0 m (pc + 1) ls (.int (g 8 j) :: rest))) : W p l e R s m args below meth c H locs cells slots Q (F0 m pc ls (.int (nI j) :: .ref (a 6 5) :: rest)) :=
  z_iald (i := 6) (q := 5) X hH (by omega) (by omega) zE_m (by omega) j hj hdg kk
theorem ar_tables (X : zC p m c cc nL s args own D k a) (hH : zH D k a s g H locs) (j : Nat) (hj : j < 11) (hdg : decode cc pc = .ok (.iaload, 1)) (kk : W p l e R s m args below meth c H locs cells slots Q (F0 m (pc + 1) ls (.int (g 9 j) :: rest))) : W p l e R s m args below meth c H locs cells slots Q (F0 m pc ls (.int (nI j) :: .ref (a 6 6) :: rest)) :=
  z_iald (i := 6) (q := 6) X hH (by omega) (by omega) zE_m (by omega) j hj hdg kk
theorem ar_numbers (X : zC p m c cc nL s args own D k a) (hH : zH D k a s g H locs) (j : Nat) (hj : j < 11) (hdg : decode cc pc = .ok (.iaload, 1)) (kk : W p l e R s m args below meth c H locs cells slots Q (F0 m (pc + 1) ls (.int (g 17 j) :: rest))) : W p l e R s m args below meth c H locs cells slots Q (F0 m pc ls (.int (nI j) :: .ref (a 6 7) :: rest)) :=
  z_iald (i := 6) (q := 7) X hH (by omega) (by omega) zE_m (by omega) j hj hdg kk
theorem ar_s (X : zC p m c cc nL s args own D k a) (hH : zH D k a s g H locs) {z : Nat} (B j : Nat) (hB : B < 7) (hj : j < 160) (hz : z = 160 * B + j) (hdg : decode cc pc = .ok (.iaload, 1)) (kk : W p l e R s m args below meth c H locs cells slots Q (F0 m (pc + 1) ls (.int (g (10 + B) j) :: rest))) : W p l e R s m args below meth c H locs cells slots Q (F0 m pc ls (.int (nI z) :: .ref (a 6 9) :: rest)) := by
  subst hz
  refine z_iald (i := 6) (q := 9) X hH (by omega) (by omega) zE_m (by omega) (160 * B + j) (by omega) hdg ?_
  rw [if_pos (by omega), show (160 * B + j) / 160 = B by omega, show (160 * B + j) % 160 = j by omega]
  exact kk
theorem zMi_ne {g' : Mem} {q : Nat} (hq : q ≠ 9) (h6 : g' 6 = g 6) (h18 : g' 18 = g 18) (h7 : q ≠ 4 → g' 7 = g 7) (h8 : q ≠ 5 → g' 8 = g 8) (h9 : q ≠ 6 → g' 9 = g 9) (h17 : q ≠ 7 → g' 17 = g 17) (h19 : q ≠ 10 → g' 19 = g 19) (hs : ∀ j, 10 ≤ j → j < 17 → g' j = g j) : ∀ r, r < 11 → r ≠ q → zMi k a g' r = zMi k a g r := by
  intro r hr hne
  rcases (show r = 0 ∨ r = 1 ∨ r = 2 ∨ r = 3 ∨ r = 4 ∨ r = 5 ∨ r = 6 ∨ r = 7 ∨ r = 8 ∨ r = 9 ∨ r = 10 by omega) with rfl | rfl | rfl | rfl | rfl | rfl | rfl | rfl | rfl | rfl | rfl
  · simp [zMi, h6]
  · simp [zMi, h6]
  · simp [zMi]
  · simp [zMi, h6]
  · simp [zMi, h7 (Ne.symm hne)]
  · simp [zMi, h8 (Ne.symm hne)]
  · simp [zMi, h9 (Ne.symm hne)]
  · simp [zMi, h17 (Ne.symm hne)]
  · simp [zMi, h18]
  · exact zMi_9 hs
  · simp [zMi, h19 (Ne.symm hne)]
theorem as_sets (X : zC p m c cc nL s args own D k a) (hH : zH D k a s g H locs) {i : Nat} (hi : i < 6) (j : Nat) (hj : j < 5) {x : Int32} (hdg : decode cc pc = .ok (.iastore, 1)) (kk : ∀ (H1 : Heap) (locs1 : List Loc), zH D k a s (zUp g i (upd (g i) (8 + j) x)) H1 locs1 → W p l e R s m args below meth c H1 locs1 cells slots Q (F0 m (pc + 1) ls rest)) : W p l e R s m args below meth c H locs cells slots Q (F0 m pc ls (.int x :: .int (nI j) :: .ref (a i 3) :: rest)) := by
  refine z_iast X hH (by omega) (by omega) (zE_sets hi) (by omega) j hj (zUp g i (upd (g i) (8 + j) x)) ?_ (z_ho hi (zo_3 (by omega) (by omega))) hdg kk
  rw [zE_sets hi, zUp_s]
  congr 3
  congr 1
  funext r
  by_cases h1 : r = j
  · subst h1
    simp [upd, hj]
  · have h2 : ¬ 8 + r = 8 + j := by omega
    simp only [upd, h1, h2, if_false]
theorem as_signs (X : zC p m c cc nL s args own D k a) (hH : zH D k a s g H locs) (j : Nat) (hj : j < 80) {x : Int32} (hx : vp_nar .char x = x) (hdg : decode cc pc = .ok (.castore, 1)) (kk : ∀ (H1 : Heap) (locs1 : List Loc), zH D k a s (zUp g 7 (upd (g 7) j x)) H1 locs1 → W p l e R s m args below meth c H1 locs1 cells slots Q (F0 m (pc + 1) ls rest)) : W p l e R s m args below meth c H locs cells slots Q (F0 m pc ls (.int x :: .int (nI j) :: .ref (a 6 4) :: rest)) := by
  refine z_cast (i := 6) (q := 4) X hH (by omega) (by omega) zE_m (by omega) j hj hx (zUp g 7 (upd (g 7) j x)) ?_ (zE_mi (fun r hr => zUp_n g _ (by omega)) (zMi_ne (by omega) (zUp_n g _ (by omega)) (zUp_n g _ (by omega)) (fun h => by first | exact absurd rfl h | exact zUp_n g _ (by omega)) (fun h => by first | exact absurd rfl h | exact zUp_n g _ (by omega)) (fun h => by first | exact absurd rfl h | exact zUp_n g _ (by omega)) (fun h => by first | exact absurd rfl h | exact zUp_n g _ (by omega)) (fun h => by first | exact absurd rfl h | exact zUp_n g _ (by omega)) (fun r h1 h2 => zUp_n g _ (by omega)))) hdg kk
  rw [zE_m]
  simp [zMi, zUp]
theorem as_text (X : zC p m c cc nL s args own D k a) (hH : zH D k a s g H locs) (j : Nat) (hj : j < 80) {x : Int32} (hx : vp_nar .char x = x) (hdg : decode cc pc = .ok (.castore, 1)) (kk : ∀ (H1 : Heap) (locs1 : List Loc), zH D k a s (zUp g 19 (upd (g 19) j x)) H1 locs1 → W p l e R s m args below meth c H1 locs1 cells slots Q (F0 m (pc + 1) ls rest)) : W p l e R s m args below meth c H locs cells slots Q (F0 m pc ls (.int x :: .int (nI j) :: .ref (a 6 10) :: rest)) := by
  refine z_cast (i := 6) (q := 10) X hH (by omega) (by omega) zE_m (by omega) j hj hx (zUp g 19 (upd (g 19) j x)) ?_ (zE_mi (fun r hr => zUp_n g _ (by omega)) (zMi_ne (by omega) (zUp_n g _ (by omega)) (zUp_n g _ (by omega)) (fun h => by first | exact absurd rfl h | exact zUp_n g _ (by omega)) (fun h => by first | exact absurd rfl h | exact zUp_n g _ (by omega)) (fun h => by first | exact absurd rfl h | exact zUp_n g _ (by omega)) (fun h => by first | exact absurd rfl h | exact zUp_n g _ (by omega)) (fun h => by first | exact absurd rfl h | exact zUp_n g _ (by omega)) (fun r h1 h2 => zUp_n g _ (by omega)))) hdg kk
  rw [zE_m]
  simp [zMi, zUp]
theorem as_words (X : zC p m c cc nL s args own D k a) (hH : zH D k a s g H locs) (j : Nat) (hj : j < 11) {x : Int32} (hdg : decode cc pc = .ok (.iastore, 1)) (kk : ∀ (H1 : Heap) (locs1 : List Loc), zH D k a s (zUp g 8 (upd (g 8) j x)) H1 locs1 → W p l e R s m args below meth c H1 locs1 cells slots Q (F0 m (pc + 1) ls rest)) : W p l e R s m args below meth c H locs cells slots Q (F0 m pc ls (.int x :: .int (nI j) :: .ref (a 6 5) :: rest)) := by
  refine z_iast (i := 6) (q := 5) X hH (by omega) (by omega) zE_m (by omega) j hj (zUp g 8 (upd (g 8) j x)) ?_ (zE_mi (fun r hr => zUp_n g _ (by omega)) (zMi_ne (by omega) (zUp_n g _ (by omega)) (zUp_n g _ (by omega)) (fun h => by first | exact absurd rfl h | exact zUp_n g _ (by omega)) (fun h => by first | exact absurd rfl h | exact zUp_n g _ (by omega)) (fun h => by first | exact absurd rfl h | exact zUp_n g _ (by omega)) (fun h => by first | exact absurd rfl h | exact zUp_n g _ (by omega)) (fun h => by first | exact absurd rfl h | exact zUp_n g _ (by omega)) (fun r h1 h2 => zUp_n g _ (by omega)))) hdg kk
  rw [zE_m]
  simp [zMi, zUp]
theorem as_tables (X : zC p m c cc nL s args own D k a) (hH : zH D k a s g H locs) (j : Nat) (hj : j < 11) {x : Int32} (hdg : decode cc pc = .ok (.iastore, 1)) (kk : ∀ (H1 : Heap) (locs1 : List Loc), zH D k a s (zUp g 9 (upd (g 9) j x)) H1 locs1 → W p l e R s m args below meth c H1 locs1 cells slots Q (F0 m (pc + 1) ls rest)) : W p l e R s m args below meth c H locs cells slots Q (F0 m pc ls (.int x :: .int (nI j) :: .ref (a 6 6) :: rest)) := by
  refine z_iast (i := 6) (q := 6) X hH (by omega) (by omega) zE_m (by omega) j hj (zUp g 9 (upd (g 9) j x)) ?_ (zE_mi (fun r hr => zUp_n g _ (by omega)) (zMi_ne (by omega) (zUp_n g _ (by omega)) (zUp_n g _ (by omega)) (fun h => by first | exact absurd rfl h | exact zUp_n g _ (by omega)) (fun h => by first | exact absurd rfl h | exact zUp_n g _ (by omega)) (fun h => by first | exact absurd rfl h | exact zUp_n g _ (by omega)) (fun h => by first | exact absurd rfl h | exact zUp_n g _ (by omega)) (fun h => by first | exact absurd rfl h | exact zUp_n g _ (by omega)) (fun r h1 h2 => zUp_n g _ (by omega)))) hdg kk
  rw [zE_m]
  simp [zMi, zUp]
theorem as_numbers (X : zC p m c cc nL s args own D k a) (hH : zH D k a s g H locs) (j : Nat) (hj : j < 11) {x : Int32} (hdg : decode cc pc = .ok (.iastore, 1)) (kk : ∀ (H1 : Heap) (locs1 : List Loc), zH D k a s (zUp g 17 (upd (g 17) j x)) H1 locs1 → W p l e R s m args below meth c H1 locs1 cells slots Q (F0 m (pc + 1) ls rest)) : W p l e R s m args below meth c H locs cells slots Q (F0 m pc ls (.int x :: .int (nI j) :: .ref (a 6 7) :: rest)) := by
  refine z_iast (i := 6) (q := 7) X hH (by omega) (by omega) zE_m (by omega) j hj (zUp g 17 (upd (g 17) j x)) ?_ (zE_mi (fun r hr => zUp_n g _ (by omega)) (zMi_ne (by omega) (zUp_n g _ (by omega)) (zUp_n g _ (by omega)) (fun h => by first | exact absurd rfl h | exact zUp_n g _ (by omega)) (fun h => by first | exact absurd rfl h | exact zUp_n g _ (by omega)) (fun h => by first | exact absurd rfl h | exact zUp_n g _ (by omega)) (fun h => by first | exact absurd rfl h | exact zUp_n g _ (by omega)) (fun h => by first | exact absurd rfl h | exact zUp_n g _ (by omega)) (fun r h1 h2 => zUp_n g _ (by omega)))) hdg kk
  rw [zE_m]
  simp [zMi, zUp]
theorem as_s (X : zC p m c cc nL s args own D k a) (hH : zH D k a s g H locs) {z : Nat} (B j : Nat) (hB : B < 7) (hj : j < 160) (hz : z = 160 * B + j) {x : Int32} (hdg : decode cc pc = .ok (.iastore, 1)) (kk : ∀ (H1 : Heap) (locs1 : List Loc), zH D k a s (zUp g (10 + B) (upd (g (10 + B)) j x)) H1 locs1 → W p l e R s m args below meth c H1 locs1 cells slots Q (F0 m (pc + 1) ls rest)) : W p l e R s m args below meth c H locs cells slots Q (F0 m pc ls (.int x :: .int (nI z) :: .ref (a 6 9) :: rest)) := by
  subst hz
  refine z_iast (i := 6) (q := 9) X hH (by omega) (by omega) zE_m (by omega) (160 * B + j) (by omega) (zUp g (10 + B) (upd (g (10 + B)) j x)) ?_ (zE_mi (fun r hr => zUp_n g _ (by omega)) ?_) hdg kk
  · rw [zE_m]
    show (.inl (k 1, 1120, .inl (fun j' => if j' < 1120 then (zUp g (10 + B) (upd (g (10 + B)) j x)) (10 + j' / 160) (j' % 160) else 0)) : va_E) = .inl (k 1, 1120, .inl (upd (fun j' => if j' < 1120 then g (10 + j' / 160) (j' % 160) else 0) (160 * B + j) x))
    congr 3
    congr 1
    funext r
    by_cases h1 : r = 160 * B + j
    · subst h1
      rw [if_pos (by omega), show (160 * B + j) / 160 = B by omega, show (160 * B + j) % 160 = j by omega, zUp_s, zu_s, zu_s]
    · rw [zu_n _ _ h1]
      by_cases h2 : r < 1120
      · rw [if_pos h2, if_pos h2]
        by_cases h3 : r / 160 = B
        · rw [h3, zUp_s, zu_n _ _ (by omega)]
        · rw [zUp_n g _ (by omega)]
      · rw [if_neg h2, if_neg h2]
  · intro r hr hne
    rcases (show r = 0 ∨ r = 1 ∨ r = 2 ∨ r = 3 ∨ r = 4 ∨ r = 5 ∨ r = 6 ∨ r = 7 ∨ r = 8 ∨ r = 9 ∨ r = 10 by omega) with rfl | rfl | rfl | rfl | rfl | rfl | rfl | rfl | rfl | rfl | rfl
    all_goals first | exact absurd rfl hne | simp [zMi, zUp_n g (i := 10 + B) (j := 6) _ (by omega), zUp_n g (i := 10 + B) (j := 7) _ (by omega), zUp_n g (i := 10 + B) (j := 8) _ (by omega), zUp_n g (i := 10 + B) (j := 9) _ (by omega), zUp_n g (i := 10 + B) (j := 17) _ (by omega), zUp_n g (i := 10 + B) (j := 18) _ (by omega), zUp_n g (i := 10 + B) (j := 19) _ (by omega)]
/-! counting in Nat -/
theorem n_iadd (hx : p.tables.exec = Jvm.exec) (hb : c.code = cc) {A B : Nat} (C : Nat) (h : A + B = C) (hdg : decode cc pc = .ok (.iadd, 1)) (kk : W p l e R s m args below meth c H locs cells slots Q (F0 m (pc + 1) ls (.int (nI C) :: rest))) : W p l e R s m args below meth c H locs cells slots Q (F0 m pc ls (.int (nI B) :: .int (nI A) :: rest)) :=
  lv_iadd hx hb hdg (by rw [nI_add, h]; exact kk)
theorem n_imul (hx : p.tables.exec = Jvm.exec) (hb : c.code = cc) {A B : Nat} (C : Nat) (h : A * B = C) (hdg : decode cc pc = .ok (.imul, 1)) (kk : W p l e R s m args below meth c H locs cells slots Q (F0 m (pc + 1) ls (.int (nI C) :: rest))) : W p l e R s m args below meth c H locs cells slots Q (F0 m pc ls (.int (nI B) :: .int (nI A) :: rest)) :=
  lv_imul hx hb hdg (by rw [pk_mul, h]; exact kk)
theorem n_isub (hx : p.tables.exec = Jvm.exec) (hb : c.code = cc) {A B : Nat} (C : Nat) (h : C + B = A) (hdg : decode cc pc = .ok (.isub, 1)) (kk : W p l e R s m args below meth c H locs cells slots Q (F0 m (pc + 1) ls (.int (nI C) :: rest))) : W p l e R s m args below meth c H locs cells slots Q (F0 m pc ls (.int (nI B) :: .int (nI A) :: rest)) :=
  lv_isub hx hb hdg (by rw [pk_sub (by omega), show A - B = C by omega]; exact kk)
theorem n_idiv (hx : p.tables.exec = Jvm.exec) (hb : c.code = cc) {A B : Nat} (C : Nat) (h : A / B = C) (hA : A < 2 ^ 31) (h0 : 0 < B) (hB : B < 2 ^ 31) (hdg : decode cc pc = .ok (.idiv, 1)) (kk : W p l e R s m args below meth c H locs cells slots Q (F0 m (pc + 1) ls (.int (nI C) :: rest))) : W p l e R s m args below meth c H locs cells slots Q (F0 m pc ls (.int (nI B) :: .int (nI A) :: rest)) :=
  lv_idiv hx hb hdg (nI_ne0 h0 hB) (by rw [pk_div hA h0 hB, h]; exact kk)
theorem n_irem (hx : p.tables.exec = Jvm.exec) (hb : c.code = cc) {A B : Nat} (C : Nat) (h : A % B = C) (hA : A < 2 ^ 31) (h0 : 0 < B) (hB : B < 2 ^ 31) (hdg : decode cc pc = .ok (.irem, 1)) (kk : W p l e R s m args below meth c H locs cells slots Q (F0 m (pc + 1) ls (.int (nI C) :: rest))) : W p l e R s m args below meth c H locs cells slots Q (F0 m pc ls (.int (nI B) :: .int (nI A) :: rest)) :=
  lv_irem hx hb hdg (nI_ne0 h0 hB) (by rw [pk_rem hA h0 hB, h]; exact kk)
theorem n_icmp_eq (hx : p.tables.exec = Jvm.exec) (hb : c.code = cc) {A B : Nat} (hA : A < 2 ^ 31) (hB : B < 2 ^ 31) {off : Int} {tgt : Nat} (hdg : decode cc pc = .ok (.if_icmp .eq off, 3)) (ht : (pc : Int) + off = (tgt : Int)) (kt : A = B → W p l e R s m args below meth c H locs cells slots Q (F0 m tgt ls rest)) (kf : A ≠ B → W p l e R s m args below meth c H locs cells slots Q (F0 m (pc + 3) ls rest)) : W p l e R s m args below meth c H locs cells slots Q (F0 m pc ls (.int (nI B) :: .int (nI A) :: rest)) :=
  lv_icmp_eq hx hb hdg ht (fun h => kt ((nI_eq hA hB).mp h)) (fun h => kf (fun q => h ((nI_eq hA hB).mpr q)))
theorem n_icmp_ne (hx : p.tables.exec = Jvm.exec) (hb : c.code = cc) {A B : Nat} (hA : A < 2 ^ 31) (hB : B < 2 ^ 31) {off : Int} {tgt : Nat} (hdg : decode cc pc = .ok (.if_icmp .ne off, 3)) (ht : (pc : Int) + off = (tgt : Int)) (kt : A ≠ B → W p l e R s m args below meth c H locs cells slots Q (F0 m tgt ls rest)) (kf : A = B → W p l e R s m args below meth c H locs cells slots Q (F0 m (pc + 3) ls rest)) : W p l e R s m args below meth c H locs cells slots Q (F0 m pc ls (.int (nI B) :: .int (nI A) :: rest)) :=
  lv_icmp_ne hx hb hdg ht (fun h => kt (fun q => h ((nI_eq hA hB).mpr q))) (fun h => kf ((nI_eq hA hB).mp h))
theorem n_icmp_lt (hx : p.tables.exec = Jvm.exec) (hb : c.code = cc) {A B : Nat} (hA : A < 2 ^ 31) (hB : B < 2 ^ 31) {off : Int} {tgt : Nat} (hdg : decode cc pc = .ok (.if_icmp .lt off, 3)) (ht : (pc : Int) + off = (tgt : Int)) (kt : A < B → W p l e R s m args below meth c H locs cells slots Q (F0 m tgt ls rest)) (kf : B ≤ A → W p l e R s m args below meth c H locs cells slots Q (F0 m (pc + 3) ls rest)) : W p l e R s m args below meth c H locs cells slots Q (F0 m pc ls (.int (nI B) :: .int (nI A) :: rest)) :=
  lv_icmp_lt hx hb hdg ht (fun h => kt ((nI_ltI hA hB).mp h)) (fun h => kf (Nat.not_lt.mp (fun q => h ((nI_ltI hA hB).mpr q))))
theorem n_icmp_ge (hx : p.tables.exec = Jvm.exec) (hb : c.code = cc) {A B : Nat} (hA : A < 2 ^ 31) (hB : B < 2 ^ 31) {off : Int} {tgt : Nat} (hdg : decode cc pc = .ok (.if_icmp .ge off, 3)) (ht : (pc : Int) + off = (tgt : Int)) (kt : B ≤ A → W p l e R s m args below meth c H locs cells slots Q (F0 m tgt ls rest)) (kf : A < B → W p l e R s m args below meth c H locs cells slots Q (F0 m (pc + 3) ls rest)) : W p l e R s m args below meth c H locs cells slots Q (F0 m pc ls (.int (nI B) :: .int (nI A) :: rest)) :=
  lv_icmp_ge hx hb hdg ht (fun h => kt ((nI_leI hB hA).mp h)) (fun h => kf (Nat.not_le.mp (fun q => h ((nI_leI hB hA).mpr q))))
theorem n_icmp_gt (hx : p.tables.exec = Jvm.exec) (hb : c.code = cc) {A B : Nat} (hA : A < 2 ^ 31) (hB : B < 2 ^ 31) {off : Int} {tgt : Nat} (hdg : decode cc pc = .ok (.if_icmp .gt off, 3)) (ht : (pc : Int) + off = (tgt : Int)) (kt : B < A → W p l e R s m args below meth c H locs cells slots Q (F0 m tgt ls rest)) (kf : A ≤ B → W p l e R s m args below meth c H locs cells slots Q (F0 m (pc + 3) ls rest)) : W p l e R s m args below meth c H locs cells slots Q (F0 m pc ls (.int (nI B) :: .int (nI A) :: rest)) :=
  lv_icmp_gt hx hb hdg ht (fun h => kt ((nI_ltI hB hA).mp h)) (fun h => kf (Nat.not_lt.mp (fun q => h ((nI_ltI hB hA).mpr q))))
theorem n_icmp_le (hx : p.tables.exec = Jvm.exec) (hb : c.code = cc) {A B : Nat} (hA : A < 2 ^ 31) (hB : B < 2 ^ 31) {off : Int} {tgt : Nat} (hdg : decode cc pc = .ok (.if_icmp .le off, 3)) (ht : (pc : Int) + off = (tgt : Int)) (kt : A ≤ B → W p l e R s m args below meth c H locs cells slots Q (F0 m tgt ls rest)) (kf : B < A → W p l e R s m args below meth c H locs cells slots Q (F0 m (pc + 3) ls rest)) : W p l e R s m args below meth c H locs cells slots Q (F0 m pc ls (.int (nI B) :: .int (nI A) :: rest)) :=
  lv_icmp_le hx hb hdg ht (fun h => kt ((nI_leI hA hB).mp h)) (fun h => kf (Nat.not_le.mp (fun q => h ((nI_leI hA hB).mpr q))))
end ZC

theorem k_L_13 : zLkV RL 13 yX5_table cX5_table 5 (some .int) 3 := ⟨q_231, q_232, q_233, q_1, q_234, by decide +kernel⟩
theorem k_L_17 : zLkV RL 17 yX6_table cX6_table 6 (some .int) 3 := ⟨q_613, q_614, q_615, q_7, q_616, by decide +kernel⟩
theorem k_L_18 : zLkV RL 18 yX5_ask cX5_ask 3 (some .int) 2 := ⟨q_261, q_262, q_263, q_1, q_264, by decide +kernel⟩
theorem k_L_22 : zLkV RL 22 yX6_ask cX6_ask 3 (some .int) 2 := ⟨q_628, q_629, q_630, q_7, q_631, by decide +kernel⟩
theorem k_L_23 : zLkV RL 23 yX5_askAll cX5_askAll 5 (some .int) 0 := ⟨q_361, q_362, q_363, q_1, q_364, by decide +kernel⟩
theorem k_L_27 : zLkV RL 27 yX6_askAll cX6_askAll 2 (some .int) 0 := ⟨q_693, q_694, q_695, q_7, q_696, by decide +kernel⟩
theorem k_L_28 : zLkV RL 28 yX5_pin cX5_pin 3 (some .int) 2 := ⟨q_453, q_454, q_455, q_1, q_456, by decide +kernel⟩
theorem k_L_32 : zLkV RL 32 yX6_pin cX6_pin 4 (some .int) 2 := ⟨q_725, q_726, q_727, q_7, q_728, by decide +kernel⟩
theorem k_L_33 : zLkV RL 33 yX5_throwOut cX5_throwOut 2 (some .int) 1 := ⟨q_462, q_463, q_464, q_1, q_465, by decide +kernel⟩
theorem k_L_37 : zLkV RL 37 yX6_throwOut cX6_throwOut 2 (some .int) 1 := ⟨q_737, q_738, q_739, q_7, q_740, by decide +kernel⟩
theorem k_L_38 : zLkV RL 38 yX5_make cX5_make 6 (some .int) 5 := ⟨q_467, q_468, q_469, q_1, q_470, by decide +kernel⟩
theorem k_L_42 : zLkV RL 42 yX6_make cX6_make 7 (some .int) 5 := ⟨q_741, q_742, q_743, q_7, q_744, by decide +kernel⟩
theorem k_L_43 : zLkV RL 43 yX5_set cX5_set 4 (some .int) 2 := ⟨q_478, q_479, q_480, q_1, q_481, by decide +kernel⟩
theorem k_L_46 : zLkV RL 46 yX6_set cX6_set 4 (some .int) 2 := ⟨q_746, q_747, q_748, q_7, q_749, by decide +kernel⟩
theorem k_L_47 : zLkV RL 47 yX5_type cX5_type 2 (some .int) 1 := ⟨q_487, q_488, q_489, q_1, q_490, by decide +kernel⟩
theorem k_L_51 : zLkV RL 51 yX6_type cX6_type 2 (some .int) 1 := ⟨q_756, q_757, q_758, q_7, q_759, by decide +kernel⟩
theorem k_L_52 : zLkV RL 52 yX5_clearText cX5_clearText 2 (some .int) 0 := ⟨q_491, q_492, q_493, q_1, q_494, by decide +kernel⟩
theorem k_L_55 : zLkV RL 55 yX6_clearText cX6_clearText 2 (some .int) 0 := ⟨q_760, q_761, q_762, q_7, q_763, by decide +kernel⟩
theorem k_L_56 : zLkV RL 56 yX5_undo cX5_undo 1 (some .int) 0 := ⟨q_495, q_496, q_497, q_1, q_498, by decide +kernel⟩
theorem k_L_59 : zLkV RL 59 yX6_undo cX6_undo 1 (some .int) 0 := ⟨q_764, q_765, q_766, q_7, q_767, by decide +kernel⟩
theorem k_L_60 : zLkV RL 60 yX5_keep cX5_keep 1 (some .int) 0 := ⟨q_503, q_504, q_505, q_1, q_506, by decide +kernel⟩
theorem k_L_63 : zLkV RL 63 yX6_keep cX6_keep 1 (some .int) 0 := ⟨q_768, q_769, q_770, q_7, q_771, by decide +kernel⟩
theorem k_L_64 : zLkV RL 64 yX5_restore cX5_restore 1 (some .int) 0 := ⟨q_508, q_509, q_510, q_1, q_511, by decide +kernel⟩
theorem k_L_67 : zLkV RL 67 yX6_restore cX6_restore 1 (some .int) 0 := ⟨q_772, q_773, q_774, q_7, q_775, by decide +kernel⟩
theorem k_L_68 : zLkV RL 68 yX5_cost cX5_cost 4 (some .int) 3 := ⟨q_512, q_513, q_514, q_1, q_515, by decide +kernel⟩
theorem k_L_72 : zLkV RL 72 yX6_cost cX6_cost 4 (some .int) 3 := ⟨q_776, q_777, q_778, q_7, q_779, by decide +kernel⟩
theorem k_L_73 : zLkV RL 73 yX5_cheapest cX5_cheapest 3 (some .int) 2 := ⟨q_517, q_518, q_519, q_1, q_520, by decide +kernel⟩
theorem k_L_76 : zLkV RL 76 yX6_cheapest cX6_cheapest 3 (some .int) 2 := ⟨q_780, q_781, q_782, q_7, q_783, by decide +kernel⟩
theorem k_L_77 : zLkV RL 77 yX5_plan cX5_plan 4 (some .int) 2 := ⟨q_522, q_523, q_524, q_1, q_525, by decide +kernel⟩
theorem k_L_80 : zLkV RL 80 yX6_plan cX6_plan 4 (some .int) 2 := ⟨q_784, q_785, q_786, q_7, q_787, by decide +kernel⟩
theorem k_L_81 : zLkV RL 81 yX5_reason cX5_reason 3 (some .int) 2 := ⟨q_530, q_531, q_532, q_1, q_533, by decide +kernel⟩
theorem k_L_84 : zLkV RL 84 yX6_reason cX6_reason 3 (some .int) 2 := ⟨q_788, q_789, q_790, q_7, q_791, by decide +kernel⟩
theorem k_L_85 : zLkV RL 85 yX5_ifAsked cX5_ifAsked 9 (some .int) 3 := ⟨q_535, q_536, q_537, q_1, q_538, by decide +kernel⟩
theorem k_L_88 : zLkV RL 88 yX6_ifAsked cX6_ifAsked 4 (some .int) 3 := ⟨q_792, q_793, q_794, q_7, q_795, by decide +kernel⟩
theorem k_L_89 : zLkV RL 89 yX5_reach cX5_reach 5 (some .int) 2 := ⟨q_544, q_545, q_546, q_1, q_547, by decide +kernel⟩
theorem k_L_92 : zLkV RL 92 yX6_reach cX6_reach 5 (some .int) 2 := ⟨q_800, q_801, q_802, q_7, q_803, by decide +kernel⟩
theorem k_L_93 : zLkV RL 93 yX5_oldest cX5_oldest 1 (some .int) 0 := ⟨q_548, q_549, q_550, q_1, q_551, by decide +kernel⟩
theorem k_L_96 : zLkV RL 96 yX6_oldest cX6_oldest 1 (some .int) 0 := ⟨q_804, q_805, q_806, q_7, q_807, by decide +kernel⟩
theorem k_L_97 : zLkV RL 97 yX5_tableOf cX5_tableOf 4 (some .int) 2 := ⟨q_553, q_554, q_555, q_1, q_556, by decide +kernel⟩
theorem k_L_100 : zLkV RL 100 yX6_tableOf cX6_tableOf 3 (some .int) 2 := ⟨q_808, q_809, q_810, q_7, q_811, by decide +kernel⟩
theorem k_L_101 : zLkV RL 101 yX5_count cX5_count 2 (some .int) 1 := ⟨q_561, q_562, q_563, q_1, q_564, by decide +kernel⟩
theorem k_L_104 : zLkV RL 104 yX6_count cX6_count 2 (some .int) 1 := ⟨q_816, q_817, q_818, q_7, q_819, by decide +kernel⟩
theorem k_X0_22 : zLkV RX0 22 yX3_copyFrom cX3_copyFrom 3 none 1 := ⟨q_242, q_243, q_244, q_2, q_245, by decide +kernel⟩
theorem k_X2_53 : zLkV RX2 53 yX2_sign cX2_sign 1 (some .int) 0 := ⟨q_377, q_378, q_379, q_6, q_380, by decide +kernel⟩
theorem k_X2_74 : zLkV RX2 74 yJ0_length_8abf5 cJ0_length_8abf5 1 (some .int) 0 := ⟨q_390, q_391, q_392, q_9, q_393, by decide +kernel⟩
theorem k_X2_78 : zLkV RX2 78 yJ0_charAt_5068e cJ0_charAt_5068e 2 (some .char) 1 := ⟨q_400, q_401, q_402, q_9, q_403, by decide +kernel⟩
theorem k_X2_32 : zLkV RX2 32 yX2_readLine cX2_readLine 5 (some .boolean) 1 := ⟨q_369, q_370, q_371, q_6, q_372, by decide +kernel⟩
theorem k_X2_41 : zLkV RX2 41 yX2_pass cX2_pass 3 (some .boolean) 1 := ⟨q_386, q_387, q_388, q_6, q_389, by decide +kernel⟩
theorem k_X2_45 : zLkV RX2 45 yX2_readWord cX2_readWord 1 (some .int) 0 := ⟨q_373, q_374, q_375, q_6, q_376, by decide +kernel⟩
theorem k_X2_49 : zLkV RX2 49 yX2_readNumber cX2_readNumber 5 (some .int) 2 := ⟨q_442, q_443, q_444, q_6, q_445, by decide +kernel⟩
theorem k_X2_71 : zLkV RX2 71 yX2_digit cX2_digit 2 (some .int) 0 := ⟨q_447, q_448, q_449, q_6, q_450, by decide +kernel⟩
theorem k_X2_56 : zLkV RX2 56 yX2_readKeyOrKeys cX2_readKeyOrKeys 1 (some .int) 0 := ⟨q_381, q_382, q_383, q_6, q_384, by decide +kernel⟩
theorem k_X3_116 : zLkV RX3 116 yX3_whyNotUsed cX3_whyNotUsed 4 (some .int) 2 := ⟨q_278, q_279, q_280, q_2, q_281, by decide +kernel⟩
theorem k_X3_119 : zLkV RX3 119 yX3_answerByPlan cX3_answerByPlan 5 (some .int) 2 := ⟨q_297, q_298, q_299, q_2, q_300, by decide +kernel⟩
theorem k_X3_122 : zLkV RX3 122 yX3_answerByLooking cX3_answerByLooking 5 (some .int) 2 := ⟨q_321, q_322, q_323, q_2, q_324, by decide +kernel⟩
theorem k_X3_64 : zLkV RX3 64 yX3_tableUnder cX3_tableUnder 2 (some (.object "KeptPlans$Table")) 1 := ⟨q_286, q_287, q_288, q_2, q_289, by decide +kernel⟩
theorem k_X3_140 : zLkV RX3 140 yX3_cheapestWay cX3_cheapestWay 7 (some .int) 2 := ⟨q_325, q_326, q_327, q_2, q_328, by decide +kernel⟩
theorem k_X3_143 : zLkV RX3 143 yX3_makeRoomFor cX3_makeRoomFor 2 none 1 := ⟨q_329, q_330, q_331, q_2, q_332, by decide +kernel⟩
theorem k_X3_147 : zLkV RX3 147 yX3_couldKeep cX3_couldKeep 2 (some .boolean) 1 := ⟨q_349, q_350, q_351, q_2, q_352, by decide +kernel⟩
theorem k_X3_82 : zLkN yX5_quotient cX5_quotient 2 (some .int) 2 := ⟨q_313, q_1, q_314, by decide +kernel⟩
theorem k_X3_150 : zLkV RX3 150 yX3_place cX3_place 7 none 5 := ⟨q_357, q_358, q_359, q_2, q_360, by decide +kernel⟩
theorem k_X3_85 : zLkV RX3 85 yX3_priceBy cX3_priceBy 7 (some .int) 3 := ⟨q_301, q_302, q_303, q_2, q_304, by decide +kernel⟩
theorem k_X3_136 : zLkV RX3 136 yX3_isTooDear cX3_isTooDear 3 (some .boolean) 2 := ⟨q_317, q_318, q_319, q_2, q_320, by decide +kernel⟩
theorem k_X3_29 : zLkV RX3 29 yX4_copyFrom cX4_copyFrom 2 none 1 := ⟨q_246, q_247, q_248, q_3, q_249, by decide +kernel⟩
theorem k_X3_33 : zLkV RX3 33 yX1_copyFrom cX1_copyFrom 2 none 1 := ⟨q_250, q_251, q_252, q_4, q_253, by decide +kernel⟩
theorem k_X3_160 : zLkV RX3 160 yX3_pinnedPlans cX3_pinnedPlans 3 (some .int) 0 := ⟨q_353, q_354, q_355, q_2, q_356, by decide +kernel⟩
theorem k_X3_164 : zLkV RX3 164 yX3_keptPlans cX3_keptPlans 3 (some .int) 0 := ⟨q_337, q_338, q_339, q_2, q_340, by decide +kernel⟩
theorem k_X3_170 : zLkV RX3 170 yX3_oldestUnpinned cX3_oldestUnpinned 6 (some .int) 0 := ⟨q_345, q_346, q_347, q_2, q_348, by decide +kernel⟩
theorem k_X3_167 : zLkV RX3 167 yX3_lacksRoomFor cX3_lacksRoomFor 2 (some .boolean) 1 := ⟨q_333, q_334, q_335, q_2, q_336, by decide +kernel⟩
theorem k_X3_96 : zLkV RX3 96 yX3_rowsChangedTooMuch cX3_rowsChangedTooMuch 3 (some .boolean) 1 := ⟨q_282, q_283, q_284, q_2, q_285, by decide +kernel⟩
theorem k_X3_100 : zLkV RX3 100 yX3_isTooOld cX3_isTooOld 2 (some .boolean) 1 := ⟨q_293, q_294, q_295, q_2, q_296, by decide +kernel⟩
theorem k_X3_173 : zLkV RX3 173 yX3_crowdOutDownTo cX3_crowdOutDownTo 5 none 1 := ⟨q_341, q_342, q_343, q_2, q_344, by decide +kernel⟩
theorem k_X3_68 : zLkN yX5_bitsOf cX5_bitsOf 2 (some .int) 1 := ⟨q_306, q_1, q_307, by decide +kernel⟩
theorem k_X3_72 : zLkV RX3 72 yX3_rowsMet cX3_rowsMet 5 (some .int) 2 := ⟨q_308, q_309, q_310, q_2, q_311, by decide +kernel⟩
theorem k_X3_176 : zLkV RX3 176 yX3_isStale cX3_isStale 2 (some .boolean) 1 := ⟨q_569, q_527, q_528, q_2, q_529, by decide +kernel⟩
theorem k_X5_62 : zLkS RX5 62 yX5_isShape cX5_isShape 1 (some .boolean) 1 := ⟨q_265, q_266, q_1, q_267, by decide +kernel⟩
theorem k_X5_65 : zLkS RX5 65 yX5_isNumberOf cX5_isNumberOf 2 (some .boolean) 2 := ⟨q_268, q_269, q_1, q_270, by decide +kernel⟩
theorem k_X5_54 : zLkV RX5 54 yX0_record cX0_record 2 none 1 := ⟨q_238, q_239, q_240, q_5, q_241, by decide +kernel⟩
theorem k_X5_69 : zLkV RX5 69 yX3_answer cX3_answer 6 (some .int) 2 := ⟨q_274, q_275, q_276, q_2, q_277, by decide +kernel⟩
theorem k_X5_73 : zLkV RX5 73 yX2_read cX2_read 1 (some .int) 0 := ⟨q_365, q_366, q_367, q_6, q_368, by decide +kernel⟩
theorem k_X5_58 : zLkV RX5 58 yX3_resize cX3_resize 4 none 3 := ⟨q_257, q_258, q_259, q_2, q_260, by decide +kernel⟩
theorem k_X5_157 : zLkV RX5 157 yX3_cheapestWay cX3_cheapestWay 7 (some .int) 2 := ⟨q_521, q_326, q_327, q_2, q_328, by decide +kernel⟩
theorem k_X5_110 : zLkS RX5 110 yX5_isWay cX5_isWay 1 (some .boolean) 1 := ⟨q_471, q_472, q_1, q_473, by decide +kernel⟩
theorem k_X5_153 : zLkV RX5 153 yX3_priceBy cX3_priceBy 7 (some .int) 3 := ⟨q_516, q_302, q_303, q_2, q_304, by decide +kernel⟩
theorem k_X5_107 : zLkV RX5 107 yX3_keptPlans cX3_keptPlans 3 (some .int) 0 := ⟨q_466, q_338, q_339, q_2, q_340, by decide +kernel⟩
theorem k_X5_101 : zLkV RX5 101 yX3_pinnedPlans cX3_pinnedPlans 3 (some .int) 0 := ⟨q_461, q_354, q_355, q_2, q_356, by decide +kernel⟩
theorem k_X5_214 : zLkV RX5 214 yX3_stalePlans cX3_stalePlans 3 (some .int) 0 := ⟨q_565, q_566, q_567, q_2, q_568, by decide +kernel⟩
theorem k_X5_191 : zLkV RX5 191 yX3_whyNotUsed cX3_whyNotUsed 4 (some .int) 2 := ⟨q_534, q_279, q_280, q_2, q_281, by decide +kernel⟩
theorem k_X5_194 : zLkV RX5 194 yX3_isTooDear cX3_isTooDear 3 (some .boolean) 2 := ⟨q_539, q_318, q_319, q_2, q_320, by decide +kernel⟩
theorem k_X5_197 : zLkV RX5 197 yX3_firstCrowdedOutBy cX3_firstCrowdedOutBy 2 (some .int) 1 := ⟨q_540, q_541, q_542, q_2, q_543, by decide +kernel⟩
theorem k_X5_201 : zLkS RX5 201 yX5_leastNumberOf cX5_leastNumberOf 1 (some .int) 1 := ⟨q_271, q_272, q_1, q_273, by decide +kernel⟩
theorem k_X5_150 : zLkV RX5 150 yX3_copyFrom cX3_copyFrom 3 none 1 := ⟨q_507, q_243, q_244, q_2, q_245, by decide +kernel⟩
theorem k_X5_114 : zLkV RX5 114 yX3_couldKeep cX3_couldKeep 2 (some .boolean) 1 := ⟨q_475, q_350, q_351, q_2, q_352, by decide +kernel⟩
theorem k_X5_117 : zLkV RX5 117 yX3_makeRoomFor cX3_makeRoomFor 2 none 1 := ⟨q_476, q_330, q_331, q_2, q_332, by decide +kernel⟩
theorem k_X5_121 : zLkV RX5 121 yX3_place cX3_place 7 none 5 := ⟨q_477, q_358, q_359, q_2, q_360, by decide +kernel⟩
theorem k_X5_204 : zLkV RX5 204 yX3_oldestUnpinned cX3_oldestUnpinned 6 (some .int) 0 := ⟨q_552, q_346, q_347, q_2, q_348, by decide +kernel⟩
theorem k_X5_89 : zLkV RX5 89 yX5_hasPlan cX5_hasPlan 2 (some .boolean) 1 := ⟨q_457, q_459, qs_0, q_1, q_460, by decide +kernel⟩
theorem k_X5_181 : zLkV RX5 181 yX3_isStale cX3_isStale 2 (some .boolean) 1 := ⟨q_526, q_527, q_528, q_2, q_529, by decide +kernel⟩
theorem k_X5_134 : zLkV RX5 134 yX3_crowdOutDownTo cX3_crowdOutDownTo 5 none 1 := ⟨q_486, q_342, q_343, q_2, q_344, by decide +kernel⟩
theorem k_X5_37 : zLkS RX5 37 yX5_isTable cX5_isTable 1 (some .boolean) 1 := ⟨q_235, q_236, q_1, q_237, by decide +kernel⟩
theorem k_X5_207 : zLkV RX5 207 yX3_keptPlansOf cX3_keptPlansOf 4 (some .int) 1 := ⟨q_557, q_558, q_559, q_2, q_560, by decide +kernel⟩
theorem k_X5_147 : zLkV RX5 147 yX0_takeBack cX0_takeBack 2 none 1 := ⟨q_499, q_500, q_501, q_5, q_502, by decide +kernel⟩
theorem k_X6_38 : zLkS RX6 38 yX6_planAt cX6_planAt 2 (some .int) 2 := ⟨q_642, q_643, q_7, q_644, by decide +kernel⟩
theorem k_X6_89 : zLkS RX6 89 yX6_isShape cX6_isShape 1 (some .boolean) 1 := ⟨q_632, q_633, q_7, q_634, by decide +kernel⟩
theorem k_X6_93 : zLkS RX6 93 yX6_isNumber cX6_isNumber 2 (some .boolean) 2 := ⟨q_635, q_636, q_7, q_637, by decide +kernel⟩
theorem k_X6_86 : zLkV RX6 86 yX6_records cX6_records 2 none 0 := ⟨q_620, q_622, qs_1, q_7, q_623, by decide +kernel⟩
theorem k_X6_96 : zLkV RX6 96 yX6_asks cX6_asks 7 (some .int) 3 := ⟨q_638, q_640, qs_3, q_7, q_641, by decide +kernel⟩
theorem k_X6_136 : zLkV RX6 136 yX6_goes cX6_goes 3 (some .int) 1 := ⟨q_697, q_699, qs_15, q_7, q_700, by decide +kernel⟩
theorem k_X6_65 : zLkV RX6 65 yX6_why cX6_why 5 (some .int) 3 := ⟨q_645, q_647, qs_4, q_7, q_648, by decide +kernel⟩
theorem k_X6_69 : zLkV RX6 69 yX6_cheapestOf cX6_cheapestOf 6 (some .int) 3 := ⟨q_661, q_663, qs_8, q_7, q_664, by decide +kernel⟩
theorem k_X6_34 : zLkV RX6 34 yX6_costs cX6_costs 10 (some .int) 4 := ⟨q_665, q_667, qs_9, q_7, q_668, by decide +kernel⟩
theorem k_X6_79 : zLkV RX6 79 yX6_hasRoom cX6_hasRoom 3 (some .boolean) 2 := ⟨q_673, q_675, qs_10, q_7, q_676, by decide +kernel⟩
theorem k_X6_82 : zLkV RX6 82 yX6_lays cX6_lays 8 none 6 := ⟨q_689, q_691, qs_14, q_7, q_692, by decide +kernel⟩
theorem k_X6_17 : zLkS RX6 17 yX6_in cX6_in 3 (some .boolean) 3 := ⟨q_617, q_618, q_7, q_619, by decide +kernel⟩
theorem k_X6_29 : zLkS RX6 29 yX6_bits cX6_bits 3 (some .int) 1 := ⟨q_669, q_670, q_7, q_671, by decide +kernel⟩
theorem k_X6_58 : zLkV RX6 58 yX6_kept cX6_kept 4 (some .int) 1 := ⟨q_677, q_679, qs_11, q_7, q_680, by decide +kernel⟩
theorem k_X6_143 : zLkV RX6 143 yX6_pinned cX6_pinned 3 (some .int) 0 := ⟨q_733, q_735, qs_23, q_7, q_736, by decide +kernel⟩
theorem k_X6_162 : zLkV RX6 162 yX6_stale cX6_stale 3 (some .int) 0 := ⟨q_820, q_822, qs_26, q_7, q_823, by decide +kernel⟩
theorem k_X6_129 : zLkV RX6 129 yX6_reads cX6_reads 1 (some .boolean) 0 := ⟨q_701, q_703, qs_16, q_7, q_704, by decide +kernel⟩
theorem k_X6_132 : zLkV RX6 132 yX6_does cX6_does 1 (some .int) 0 := ⟨q_721, q_723, qs_21, q_7, q_724, by decide +kernel⟩
theorem k_X6_109 : zLkV RX6 109 yX6_takes cX6_takes 3 (some .boolean) 1 := ⟨q_709, q_711, qs_18, q_7, q_712, by decide +kernel⟩
theorem k_X6_52 : zLkV RX6 52 yX6_oldestOf cX6_oldestOf 6 (some .int) 1 := ⟨q_681, q_683, qs_12, q_7, q_684, by decide +kernel⟩
theorem k_X6_61 : zLkV RX6 61 yX6_throwsOldest cX6_throwsOldest 3 none 1 := ⟨q_685, q_687, qs_13, q_7, q_688, by decide +kernel⟩
theorem k_X6_156 : zLkV RX6 156 yX6_wouldAsk cX6_wouldAsk 6 (some .int) 3 := ⟨q_796, q_798, qs_24, q_7, q_799, by decide +kernel⟩
theorem k_X6_42 : zLkV RX6 42 yX6_age cX6_age 3 (some .int) 2 := ⟨q_657, q_659, qs_7, q_7, q_660, by decide +kernel⟩
theorem k_X6_25 : zLkV RX6 25 yX6_copies cX6_copies 4 none 2 := ⟨q_624, q_626, qs_2, q_7, q_627, by decide +kernel⟩
theorem k_X6_140 : zLkV RX6 140 yX6_hasPlan cX6_hasPlan 2 (some .boolean) 1 := ⟨q_729, q_731, qs_22, q_7, q_732, by decide +kernel⟩
theorem k_X6_45 : zLkV RX6 45 yX6_isChanged cX6_isChanged 5 (some .boolean) 2 := ⟨q_649, q_651, qs_5, q_7, q_652, by decide +kernel⟩
theorem k_X6_49 : zLkV RX6 49 yX6_isOld cX6_isOld 3 (some .boolean) 2 := ⟨q_653, q_655, qs_6, q_7, q_656, by decide +kernel⟩
theorem k_X6_115 : zLkV RX6 115 yX6_word cX6_word 2 (some .boolean) 0 := ⟨q_705, q_707, qs_17, q_7, q_708, by decide +kernel⟩
theorem k_X6_119 : zLkV RX6 119 yX6_isDigit cX6_isDigit 3 (some .boolean) 2 := ⟨q_717, q_719, qs_20, q_7, q_720, by decide +kernel⟩
theorem k_X6_147 : zLkS RX6 147 yX6_lowest cX6_lowest 1 (some .int) 1 := ⟨q_750, q_751, q_7, q_752, by decide +kernel⟩
theorem k_X6_150 : zLkS RX6 150 yX6_highest cX6_highest 1 (some .int) 1 := ⟨q_753, q_754, q_7, q_755, by decide +kernel⟩
theorem k_X6_159 : zLkV RX6 159 yX6_keptFor cX6_keptFor 2 (some .int) 1 := ⟨q_812, q_814, qs_25, q_7, q_815, by decide +kernel⟩
theorem k_X6_105 : zLkV RX6 105 yX6_isAt cX6_isAt 2 (some .boolean) 1 := ⟨q_713, q_715, qs_19, q_7, q_716, by decide +kernel⟩
end
section
/-! the same rows over memories of a form: zUp g 0 v (the state now), zM g B v u (the model: slot B, its scalars), zT g u w t n (the text) -/
def zM (g : Mem) (B : Nat) (v u : Nat → Int32) : Mem := zUp (zUp g (10 + B) v) 18 u
theorem zM_18 (g : Mem) (B : Nat) (v u : Nat → Int32) : zM g B v u 18 = u := zUp_s _ _ _
theorem zM_B (g : Mem) {B : Nat} (hB : B < 7) (v u : Nat → Int32) : zM g B v u (10 + B) = v := by
  unfold zM
  rw [zUp_n _ _ (by omega), zUp_s]
theorem zM_o (g : Mem) {B j : Nat} (v u : Nat → Int32) (h1 : j ≠ 18) (h2 : j ≠ 10 + B) : zM g B v u j = g j := by
  unfold zM
  rw [zUp_n _ _ h1, zUp_n _ _ h2]
theorem zM_p18 (g : Mem) (B : Nat) (v u w : Nat → Int32) : zUp (zM g B v u) 18 w = zM g B v w := zUp_u _ _ _ _
theorem zM_pB (g : Mem) {B : Nat} (hB : B < 7) (v u w : Nat → Int32) : zUp (zM g B v u) (10 + B) w = zM g B w u := by
  unfold zM
  rw [zUp_c _ _ _ (show 18 ≠ 10 + B by omega), zUp_u]
theorem zM_id (g : Mem) {B : Nat} (hB : B < 7) : zM g B (g (10 + B)) (g 18) = g := by
  unfold zM
  rw [zUp_id, zUp_id]
def zT (g : Mem) (u w t n : Nat → Int32) : Mem := zUp (zUp (zUp (zUp g 8 w) 9 t) 17 n) 6 u
theorem zT_6 (g : Mem) (u w t n : Nat → Int32) : zT g u w t n 6 = u := zUp_s _ _ _
theorem zT_7 (g : Mem) (u w t n : Nat → Int32) : zT g u w t n 7 = g 7 := by simp [zT, zUp]
theorem zT_8 (g : Mem) (u w t n : Nat → Int32) : zT g u w t n 8 = w := by simp [zT, zUp]
theorem zT_9 (g : Mem) (u w t n : Nat → Int32) : zT g u w t n 9 = t := by simp [zT, zUp]
theorem zT_17 (g : Mem) (u w t n : Nat → Int32) : zT g u w t n 17 = n := by simp [zT, zUp]
theorem zT_p6 (g : Mem) (u w t n x : Nat → Int32) : zUp (zT g u w t n) 6 x = zT g x w t n := zUp_u _ _ _ _
theorem zT_p8 (g : Mem) (u w t n x : Nat → Int32) : zUp (zT g u w t n) 8 x = zT g u x t n := by
  funext j
  by_cases h1 : j = 8 <;> by_cases h2 : j = 6 <;> by_cases h3 : j = 9 <;> by_cases h4 : j = 17 <;> simp_all [zT, zUp]
theorem zT_p9 (g : Mem) (u w t n x : Nat → Int32) : zUp (zT g u w t n) 9 x = zT g u w x n := by
  funext j
  by_cases h1 : j = 8 <;> by_cases h2 : j = 6 <;> by_cases h3 : j = 9 <;> by_cases h4 : j = 17 <;> simp_all [zT, zUp]
theorem zT_p17 (g : Mem) (u w t n x : Nat → Int32) : zUp (zT g u w t n) 17 x = zT g u w t x := by
  funext j
  by_cases h1 : j = 8 <;> by_cases h2 : j = 6 <;> by_cases h3 : j = 9 <;> by_cases h4 : j = 17 <;> simp_all [zT, zUp]
theorem zT_id (g : Mem) : zT g (g 6) (g 8) (g 9) (g 17) = g := by
  unfold zT
  rw [zUp_id, zUp_id, zUp_id, zUp_id]
theorem z_nb (P : Prop) [Decidable P] : narrow .boolean (.int (if P then 1 else 0)) = .int (if P then 1 else 0) := by
  by_cases h : P
  · rw [if_pos h]; rfl
  · rw [if_neg h]; rfl
theorem z_inc1 (i : Nat) : nI i + Int32.ofInt 1 = nI (i + 1) := nI_1 i
theorem z_incI (x : Int32) : x + Int32.ofInt 1 = x + 1 := rfl
theorem z_b01 (P : Prop) [Decidable P] : (if P then (1 : Int32) else 0) = 0 ∨ (if P then (1 : Int32) else 0) = 1 := by
  by_cases h : P
  · rw [if_pos h]; exact Or.inr rfl
  · rw [if_neg h]; exact Or.inl rfl
theorem z_nlt {x y : Int32} (h : y ≤ x) : ¬ x < y := fun q => by have h1 := Int32.le_iff_toInt_le.mp h; have h2 := Int32.lt_iff_toInt_lt.mp q; omega
theorem z_lt {x y : Int32} (h : ¬ y ≤ x) : x < y := Int32.lt_iff_toInt_lt.mpr (Int.not_le.mp (fun q => h (Int32.le_iff_toInt_le.mpr q)))
section ZN
variable {p : Program} {l : Launch} {e : Env} {R : Room} {s : State} {m : MethodId} {args : Array Value} {below : List Frame} {meth : Method} {c : Code} {H : Heap} {locs : List Loc} {cells slots : Nat} {Q : State → Prop}
variable {cc : ByteArray} {nL : Nat} {own : String} {pc : Nat} {ls : Array Slot} {rest st : List Value} {D : va_G} {k : Nat → ClassId} {a : Nat → Nat → Nat} {g : Mem} {v u w tt n : Nat → Int32}
theorem b_ifeq (hx : p.tables.exec = Jvm.exec) (hb : c.code = cc) {P : Prop} [Decidable P] {off : Int} {tgt : Nat} (hdg : decode cc pc = .ok (.ifCond .eq off, 3)) (ht : (pc : Int) + off = (tgt : Int)) (kt : ¬ P → W p l e R s m args below meth c H locs cells slots Q (F0 m tgt ls rest)) (kf : P → W p l e R s m args below meth c H locs cells slots Q (F0 m (pc + 3) ls rest)) : W p l e R s m args below meth c H locs cells slots Q (F0 m pc ls (.int (if P then 1 else 0) :: rest)) := by
  by_cases h : P
  · rw [if_pos h]
    exact lv_if_eq hx hb hdg ht (fun q => absurd q (by decide)) (fun _ => kf h)
  · rw [if_neg h]
    exact lv_if_eq hx hb hdg ht (fun _ => kt h) (fun q => absurd rfl q)
theorem b_ifne (hx : p.tables.exec = Jvm.exec) (hb : c.code = cc) {P : Prop} [Decidable P] {off : Int} {tgt : Nat} (hdg : decode cc pc = .ok (.ifCond .ne off, 3)) (ht : (pc : Int) + off = (tgt : Int)) (kt : P → W p l e R s m args below meth c H locs cells slots Q (F0 m tgt ls rest)) (kf : ¬ P → W p l e R s m args below meth c H locs cells slots Q (F0 m (pc + 3) ls rest)) : W p l e R s m args below meth c H locs cells slots Q (F0 m pc ls (.int (if P then 1 else 0) :: rest)) := by
  by_cases h : P
  · rw [if_pos h]
    exact lv_if_ne hx hb hdg ht (fun _ => kt h) (fun q => absurd q (by decide))
  · rw [if_neg h]
    exact lv_if_ne hx hb hdg ht (fun q => absurd rfl q) (fun _ => kf h)
theorem z_sl : ∀ n, n < 32 → ((nI n &&& 31).toBitVec.smod 32).toNat = n := by decide +kernel
theorem n_ishr (hx : p.tables.exec = Jvm.exec) (hb : c.code = cc) {A B : Nat} (hA : A < 2 ^ 31) (hB : B < 32) (hdg : decode cc pc = .ok (.ishr, 1)) (kk : W p l e R s m args below meth c H locs cells slots Q (F0 m (pc + 1) ls (.int (nI (A / 2 ^ B)) :: rest))) : W p l e R s m args below meth c H locs cells slots Q (F0 m pc ls (.int (nI B) :: .int (nI A) :: rest)) :=
  lv_ishr hx hb hdg (by rw [pk_shrN hA (nI B &&& 31) B (z_sl B hB)]; exact kk)
theorem n_if_eq (hx : p.tables.exec = Jvm.exec) (hb : c.code = cc) {A : Nat} (hA : A < 2 ^ 31) {off : Int} {tgt : Nat} (hdg : decode cc pc = .ok (.ifCond .eq off, 3)) (ht : (pc : Int) + off = (tgt : Int)) (kt : A = 0 → W p l e R s m args below meth c H locs cells slots Q (F0 m tgt ls rest)) (kf : A ≠ 0 → W p l e R s m args below meth c H locs cells slots Q (F0 m (pc + 3) ls rest)) : W p l e R s m args below meth c H locs cells slots Q (F0 m pc ls (.int (nI A) :: rest)) :=
  lv_if_eq hx hb hdg ht (fun h => kt ((nI_eq hA (by omega)).mp (h.trans nI_0.symm))) (fun h => kf (fun q => h (by rw [q]; exact nI_0)))
theorem n_if_ne (hx : p.tables.exec = Jvm.exec) (hb : c.code = cc) {A : Nat} (hA : A < 2 ^ 31) {off : Int} {tgt : Nat} (hdg : decode cc pc = .ok (.ifCond .ne off, 3)) (ht : (pc : Int) + off = (tgt : Int)) (kt : A ≠ 0 → W p l e R s m args below meth c H locs cells slots Q (F0 m tgt ls rest)) (kf : A = 0 → W p l e R s m args below meth c H locs cells slots Q (F0 m (pc + 3) ls rest)) : W p l e R s m args below meth c H locs cells slots Q (F0 m pc ls (.int (nI A) :: rest)) :=
  lv_if_ne hx hb hdg ht (fun h => kt (fun q => h (by rw [q]; exact nI_0))) (fun h => kf ((nI_eq hA (by omega)).mp (h.trans nI_0.symm)))
theorem n_if_gt (hx : p.tables.exec = Jvm.exec) (hb : c.code = cc) {A : Nat} (hA : A < 2 ^ 31) {off : Int} {tgt : Nat} (hdg : decode cc pc = .ok (.ifCond .gt off, 3)) (ht : (pc : Int) + off = (tgt : Int)) (kt : 0 < A → W p l e R s m args below meth c H locs cells slots Q (F0 m tgt ls rest)) (kf : A = 0 → W p l e R s m args below meth c H locs cells slots Q (F0 m (pc + 3) ls rest)) : W p l e R s m args below meth c H locs cells slots Q (F0 m pc ls (.int (nI A) :: rest)) :=
  lv_if_gt hx hb hdg ht (fun h => kt ((nI_ltI (by omega) hA).mp (by rw [nI_0]; exact h))) (fun h => kf (by rcases Nat.eq_zero_or_pos A with q | q; exact q; exact absurd (by rw [← nI_0]; exact (nI_ltI (by omega) hA).mpr q) h))
theorem n_if_le (hx : p.tables.exec = Jvm.exec) (hb : c.code = cc) {A : Nat} (hA : A < 2 ^ 31) {off : Int} {tgt : Nat} (hdg : decode cc pc = .ok (.ifCond .le off, 3)) (ht : (pc : Int) + off = (tgt : Int)) (kt : A = 0 → W p l e R s m args below meth c H locs cells slots Q (F0 m tgt ls rest)) (kf : 0 < A → W p l e R s m args below meth c H locs cells slots Q (F0 m (pc + 3) ls rest)) : W p l e R s m args below meth c H locs cells slots Q (F0 m pc ls (.int (nI A) :: rest)) :=
  lv_if_le hx hb hdg ht (fun h => kt (by rcases Nat.eq_zero_or_pos A with q | q; exact q; exact absurd h (nI_nle q hA))) (fun h => kf (by rcases Nat.eq_zero_or_pos A with q | q; exact absurd (by rw [q, nI_0]; decide) h; exact q))
theorem i_icmp_lt (hx : p.tables.exec = Jvm.exec) (hb : c.code = cc) {x y : Int32} {off : Int} {tgt : Nat} (hdg : decode cc pc = .ok (.if_icmp .lt off, 3)) (ht : (pc : Int) + off = (tgt : Int)) (kt : x < y → W p l e R s m args below meth c H locs cells slots Q (F0 m tgt ls rest)) (kf : ¬ x < y → W p l e R s m args below meth c H locs cells slots Q (F0 m (pc + 3) ls rest)) : W p l e R s m args below meth c H locs cells slots Q (F0 m pc ls (.int y :: .int x :: rest)) := lv_icmp_lt hx hb hdg ht kt kf
theorem i_if_lt (hx : p.tables.exec = Jvm.exec) (hb : c.code = cc) {x : Int32} {off : Int} {tgt : Nat} (hdg : decode cc pc = .ok (.ifCond .lt off, 3)) (ht : (pc : Int) + off = (tgt : Int)) (kt : x < 0 → W p l e R s m args below meth c H locs cells slots Q (F0 m tgt ls rest)) (kf : ¬ x < 0 → W p l e R s m args below meth c H locs cells slots Q (F0 m (pc + 3) ls rest)) : W p l e R s m args below meth c H locs cells slots Q (F0 m pc ls (.int x :: rest)) := lv_if_lt hx hb hdg ht kt kf
theorem i_icmp_ge (hx : p.tables.exec = Jvm.exec) (hb : c.code = cc) {x y : Int32} {off : Int} {tgt : Nat} (hdg : decode cc pc = .ok (.if_icmp .ge off, 3)) (ht : (pc : Int) + off = (tgt : Int)) (kt : ¬ x < y → W p l e R s m args below meth c H locs cells slots Q (F0 m tgt ls rest)) (kf : x < y → W p l e R s m args below meth c H locs cells slots Q (F0 m (pc + 3) ls rest)) : W p l e R s m args below meth c H locs cells slots Q (F0 m pc ls (.int y :: .int x :: rest)) := lv_icmp_ge hx hb hdg ht (fun h => kt (z_nlt h)) (fun h => kf (z_lt h))
theorem i_if_ge (hx : p.tables.exec = Jvm.exec) (hb : c.code = cc) {x : Int32} {off : Int} {tgt : Nat} (hdg : decode cc pc = .ok (.ifCond .ge off, 3)) (ht : (pc : Int) + off = (tgt : Int)) (kt : ¬ x < 0 → W p l e R s m args below meth c H locs cells slots Q (F0 m tgt ls rest)) (kf : x < 0 → W p l e R s m args below meth c H locs cells slots Q (F0 m (pc + 3) ls rest)) : W p l e R s m args below meth c H locs cells slots Q (F0 m pc ls (.int x :: rest)) := lv_if_ge hx hb hdg ht (fun h => kt (z_nlt h)) (fun h => kf (z_lt h))
theorem i_icmp_gt (hx : p.tables.exec = Jvm.exec) (hb : c.code = cc) {x y : Int32} {off : Int} {tgt : Nat} (hdg : decode cc pc = .ok (.if_icmp .gt off, 3)) (ht : (pc : Int) + off = (tgt : Int)) (kt : y < x → W p l e R s m args below meth c H locs cells slots Q (F0 m tgt ls rest)) (kf : ¬ y < x → W p l e R s m args below meth c H locs cells slots Q (F0 m (pc + 3) ls rest)) : W p l e R s m args below meth c H locs cells slots Q (F0 m pc ls (.int y :: .int x :: rest)) := lv_icmp_gt hx hb hdg ht kt kf
theorem i_if_gt (hx : p.tables.exec = Jvm.exec) (hb : c.code = cc) {x : Int32} {off : Int} {tgt : Nat} (hdg : decode cc pc = .ok (.ifCond .gt off, 3)) (ht : (pc : Int) + off = (tgt : Int)) (kt : 0 < x → W p l e R s m args below meth c H locs cells slots Q (F0 m tgt ls rest)) (kf : ¬ 0 < x → W p l e R s m args below meth c H locs cells slots Q (F0 m (pc + 3) ls rest)) : W p l e R s m args below meth c H locs cells slots Q (F0 m pc ls (.int x :: rest)) := lv_if_gt hx hb hdg ht kt kf
theorem i_icmp_le (hx : p.tables.exec = Jvm.exec) (hb : c.code = cc) {x y : Int32} {off : Int} {tgt : Nat} (hdg : decode cc pc = .ok (.if_icmp .le off, 3)) (ht : (pc : Int) + off = (tgt : Int)) (kt : ¬ y < x → W p l e R s m args below meth c H locs cells slots Q (F0 m tgt ls rest)) (kf : y < x → W p l e R s m args below meth c H locs cells slots Q (F0 m (pc + 3) ls rest)) : W p l e R s m args below meth c H locs cells slots Q (F0 m pc ls (.int y :: .int x :: rest)) := lv_icmp_le hx hb hdg ht (fun h => kt (z_nlt h)) (fun h => kf (z_lt h))
theorem i_if_le (hx : p.tables.exec = Jvm.exec) (hb : c.code = cc) {x : Int32} {off : Int} {tgt : Nat} (hdg : decode cc pc = .ok (.ifCond .le off, 3)) (ht : (pc : Int) + off = (tgt : Int)) (kt : ¬ 0 < x → W p l e R s m args below meth c H locs cells slots Q (F0 m tgt ls rest)) (kf : 0 < x → W p l e R s m args below meth c H locs cells slots Q (F0 m (pc + 3) ls rest)) : W p l e R s m args below meth c H locs cells slots Q (F0 m pc ls (.int x :: rest)) := lv_if_le hx hb hdg ht (fun h => kt (z_nlt h)) (fun h => kf (z_lt h))
theorem gn_X1_kept (X : zC p m c cc nL s args own D k a) (hH : zH D k a s (zUp g 0 v) H locs) {t : Nat} (ht : t < 12) {idx : Nat} (hl : .fieldLink own idx "KeptPlans$Plan" "kept" "Z" ∈ GW) (hdg : decode cc pc = .ok (.getfield idx, 3))
    (kk : W p l e R s m args below meth c H locs cells slots Q (F0 m (pc + 3) ls (.int (v (13 + 11 * t + 0)) :: rest))) : W p l e R s m args below meth c H locs cells slots Q (F0 m pc ls (.ref (a 0 (8 + t)) :: rest)) :=
  gf_X1_kept X hH (by omega) ht hl hdg (by rw [zUp_s]; exact kk)
theorem pn_X1_kept (X : zC p m c cc nL s args own D k a) (hH : zH D k a s (zUp g 0 v) H locs) {t : Nat} (ht : t < 12) {idx : Nat} {x : Int32} (hx : x = 0 ∨ x = 1) (hl : .fieldLink own idx "KeptPlans$Plan" "kept" "Z" ∈ GW) (hdg : decode cc pc = .ok (.putfield idx, 3))
    (kk : ∀ (H : Heap) (locs : List Loc), zH D k a s (zUp g 0 (upd v (13 + 11 * t + 0) x)) H locs → W p l e R s m args below meth c H locs cells slots Q (F0 m (pc + 3) ls (rest))) : W p l e R s m args below meth c H locs cells slots Q (F0 m pc ls (.int x :: .ref (a 0 (8 + t)) :: rest)) :=
  pf_X1_kept X hH (by omega) ht hx hl hdg (fun H1 locs1 h => kk H1 locs1 (by rw [zUp_s, zUp_u] at h; exact h))
theorem g2_X1_kept (X : zC p m c cc nL s args own D k a) {i j t : Nat} (hi : i < 6) (hj : j < 6) (hij : j ≠ i) (ht : t < 12) (hH : zH D k a s (zUp g i v) H locs) {idx : Nat} (hl : .fieldLink own idx "KeptPlans$Plan" "kept" "Z" ∈ GW) (hdg : decode cc pc = .ok (.getfield idx, 3))
    (kk : W p l e R s m args below meth c H locs cells slots Q (F0 m (pc + 3) ls (.int (g j (13 + 11 * t + 0)) :: rest))) : W p l e R s m args below meth c H locs cells slots Q (F0 m pc ls (.ref (a j (8 + t)) :: rest)) :=
  gf_X1_kept X hH hj ht hl hdg (by rw [zUp_n _ _ hij]; exact kk)
theorem p2_X1_kept (X : zC p m c cc nL s args own D k a) {i t : Nat} (hi : i < 6) (ht : t < 12) (hH : zH D k a s (zUp g i v) H locs) {idx : Nat} {x : Int32} (hx : x = 0 ∨ x = 1) (hl : .fieldLink own idx "KeptPlans$Plan" "kept" "Z" ∈ GW) (hdg : decode cc pc = .ok (.putfield idx, 3))
    (kk : ∀ (H : Heap) (locs : List Loc), zH D k a s (zUp g i (upd v (13 + 11 * t + 0) x)) H locs → W p l e R s m args below meth c H locs cells slots Q (F0 m (pc + 3) ls (rest))) : W p l e R s m args below meth c H locs cells slots Q (F0 m pc ls (.int x :: .ref (a i (8 + t)) :: rest)) :=
  pf_X1_kept X hH hi ht hx hl hdg (fun H1 locs1 h => kk H1 locs1 (by rw [zUp_s, zUp_u] at h; exact h))
theorem gn_X1_pinned (X : zC p m c cc nL s args own D k a) (hH : zH D k a s (zUp g 0 v) H locs) {t : Nat} (ht : t < 12) {idx : Nat} (hl : .fieldLink own idx "KeptPlans$Plan" "pinned" "Z" ∈ GW) (hdg : decode cc pc = .ok (.getfield idx, 3))
    (kk : W p l e R s m args below meth c H locs cells slots Q (F0 m (pc + 3) ls (.int (v (13 + 11 * t + 8)) :: rest))) : W p l e R s m args below meth c H locs cells slots Q (F0 m pc ls (.ref (a 0 (8 + t)) :: rest)) :=
  gf_X1_pinned X hH (by omega) ht hl hdg (by rw [zUp_s]; exact kk)
theorem pn_X1_pinned (X : zC p m c cc nL s args own D k a) (hH : zH D k a s (zUp g 0 v) H locs) {t : Nat} (ht : t < 12) {idx : Nat} {x : Int32} (hx : x = 0 ∨ x = 1) (hl : .fieldLink own idx "KeptPlans$Plan" "pinned" "Z" ∈ GW) (hdg : decode cc pc = .ok (.putfield idx, 3))
    (kk : ∀ (H : Heap) (locs : List Loc), zH D k a s (zUp g 0 (upd v (13 + 11 * t + 8) x)) H locs → W p l e R s m args below meth c H locs cells slots Q (F0 m (pc + 3) ls (rest))) : W p l e R s m args below meth c H locs cells slots Q (F0 m pc ls (.int x :: .ref (a 0 (8 + t)) :: rest)) :=
  pf_X1_pinned X hH (by omega) ht hx hl hdg (fun H1 locs1 h => kk H1 locs1 (by rw [zUp_s, zUp_u] at h; exact h))
theorem g2_X1_pinned (X : zC p m c cc nL s args own D k a) {i j t : Nat} (hi : i < 6) (hj : j < 6) (hij : j ≠ i) (ht : t < 12) (hH : zH D k a s (zUp g i v) H locs) {idx : Nat} (hl : .fieldLink own idx "KeptPlans$Plan" "pinned" "Z" ∈ GW) (hdg : decode cc pc = .ok (.getfield idx, 3))
    (kk : W p l e R s m args below meth c H locs cells slots Q (F0 m (pc + 3) ls (.int (g j (13 + 11 * t + 8)) :: rest))) : W p l e R s m args below meth c H locs cells slots Q (F0 m pc ls (.ref (a j (8 + t)) :: rest)) :=
  gf_X1_pinned X hH hj ht hl hdg (by rw [zUp_n _ _ hij]; exact kk)
theorem p2_X1_pinned (X : zC p m c cc nL s args own D k a) {i t : Nat} (hi : i < 6) (ht : t < 12) (hH : zH D k a s (zUp g i v) H locs) {idx : Nat} {x : Int32} (hx : x = 0 ∨ x = 1) (hl : .fieldLink own idx "KeptPlans$Plan" "pinned" "Z" ∈ GW) (hdg : decode cc pc = .ok (.putfield idx, 3))
    (kk : ∀ (H : Heap) (locs : List Loc), zH D k a s (zUp g i (upd v (13 + 11 * t + 8) x)) H locs → W p l e R s m args below meth c H locs cells slots Q (F0 m (pc + 3) ls (rest))) : W p l e R s m args below meth c H locs cells slots Q (F0 m pc ls (.int x :: .ref (a i (8 + t)) :: rest)) :=
  pf_X1_pinned X hH hi ht hx hl hdg (fun H1 locs1 h => kk H1 locs1 (by rw [zUp_s, zUp_u] at h; exact h))
theorem gn_X1_way (X : zC p m c cc nL s args own D k a) (hH : zH D k a s (zUp g 0 v) H locs) {t : Nat} (ht : t < 12) {idx : Nat} (hl : .fieldLink own idx "KeptPlans$Plan" "way" "I" ∈ GW) (hdg : decode cc pc = .ok (.getfield idx, 3))
    (kk : W p l e R s m args below meth c H locs cells slots Q (F0 m (pc + 3) ls (.int (v (13 + 11 * t + 1)) :: rest))) : W p l e R s m args below meth c H locs cells slots Q (F0 m pc ls (.ref (a 0 (8 + t)) :: rest)) :=
  gf_X1_way X hH (by omega) ht hl hdg (by rw [zUp_s]; exact kk)
theorem pn_X1_way (X : zC p m c cc nL s args own D k a) (hH : zH D k a s (zUp g 0 v) H locs) {t : Nat} (ht : t < 12) {idx : Nat} {x : Int32} (hl : .fieldLink own idx "KeptPlans$Plan" "way" "I" ∈ GW) (hdg : decode cc pc = .ok (.putfield idx, 3))
    (kk : ∀ (H : Heap) (locs : List Loc), zH D k a s (zUp g 0 (upd v (13 + 11 * t + 1) x)) H locs → W p l e R s m args below meth c H locs cells slots Q (F0 m (pc + 3) ls (rest))) : W p l e R s m args below meth c H locs cells slots Q (F0 m pc ls (.int x :: .ref (a 0 (8 + t)) :: rest)) :=
  pf_X1_way X hH (by omega) ht hl hdg (fun H1 locs1 h => kk H1 locs1 (by rw [zUp_s, zUp_u] at h; exact h))
theorem g2_X1_way (X : zC p m c cc nL s args own D k a) {i j t : Nat} (hi : i < 6) (hj : j < 6) (hij : j ≠ i) (ht : t < 12) (hH : zH D k a s (zUp g i v) H locs) {idx : Nat} (hl : .fieldLink own idx "KeptPlans$Plan" "way" "I" ∈ GW) (hdg : decode cc pc = .ok (.getfield idx, 3))
    (kk : W p l e R s m args below meth c H locs cells slots Q (F0 m (pc + 3) ls (.int (g j (13 + 11 * t + 1)) :: rest))) : W p l e R s m args below meth c H locs cells slots Q (F0 m pc ls (.ref (a j (8 + t)) :: rest)) :=
  gf_X1_way X hH hj ht hl hdg (by rw [zUp_n _ _ hij]; exact kk)
theorem p2_X1_way (X : zC p m c cc nL s args own D k a) {i t : Nat} (hi : i < 6) (ht : t < 12) (hH : zH D k a s (zUp g i v) H locs) {idx : Nat} {x : Int32} (hl : .fieldLink own idx "KeptPlans$Plan" "way" "I" ∈ GW) (hdg : decode cc pc = .ok (.putfield idx, 3))
    (kk : ∀ (H : Heap) (locs : List Loc), zH D k a s (zUp g i (upd v (13 + 11 * t + 1) x)) H locs → W p l e R s m args below meth c H locs cells slots Q (F0 m (pc + 3) ls (rest))) : W p l e R s m args below meth c H locs cells slots Q (F0 m pc ls (.int x :: .ref (a i (8 + t)) :: rest)) :=
  pf_X1_way X hH hi ht hl hdg (fun H1 locs1 h => kk H1 locs1 (by rw [zUp_s, zUp_u] at h; exact h))
theorem gn_X1_least (X : zC p m c cc nL s args own D k a) (hH : zH D k a s (zUp g 0 v) H locs) {t : Nat} (ht : t < 12) {idx : Nat} (hl : .fieldLink own idx "KeptPlans$Plan" "least" "I" ∈ GW) (hdg : decode cc pc = .ok (.getfield idx, 3))
    (kk : W p l e R s m args below meth c H locs cells slots Q (F0 m (pc + 3) ls (.int (v (13 + 11 * t + 2)) :: rest))) : W p l e R s m args below meth c H locs cells slots Q (F0 m pc ls (.ref (a 0 (8 + t)) :: rest)) :=
  gf_X1_least X hH (by omega) ht hl hdg (by rw [zUp_s]; exact kk)
theorem pn_X1_least (X : zC p m c cc nL s args own D k a) (hH : zH D k a s (zUp g 0 v) H locs) {t : Nat} (ht : t < 12) {idx : Nat} {x : Int32} (hl : .fieldLink own idx "KeptPlans$Plan" "least" "I" ∈ GW) (hdg : decode cc pc = .ok (.putfield idx, 3))
    (kk : ∀ (H : Heap) (locs : List Loc), zH D k a s (zUp g 0 (upd v (13 + 11 * t + 2) x)) H locs → W p l e R s m args below meth c H locs cells slots Q (F0 m (pc + 3) ls (rest))) : W p l e R s m args below meth c H locs cells slots Q (F0 m pc ls (.int x :: .ref (a 0 (8 + t)) :: rest)) :=
  pf_X1_least X hH (by omega) ht hl hdg (fun H1 locs1 h => kk H1 locs1 (by rw [zUp_s, zUp_u] at h; exact h))
theorem g2_X1_least (X : zC p m c cc nL s args own D k a) {i j t : Nat} (hi : i < 6) (hj : j < 6) (hij : j ≠ i) (ht : t < 12) (hH : zH D k a s (zUp g i v) H locs) {idx : Nat} (hl : .fieldLink own idx "KeptPlans$Plan" "least" "I" ∈ GW) (hdg : decode cc pc = .ok (.getfield idx, 3))
    (kk : W p l e R s m args below meth c H locs cells slots Q (F0 m (pc + 3) ls (.int (g j (13 + 11 * t + 2)) :: rest))) : W p l e R s m args below meth c H locs cells slots Q (F0 m pc ls (.ref (a j (8 + t)) :: rest)) :=
  gf_X1_least X hH hj ht hl hdg (by rw [zUp_n _ _ hij]; exact kk)
theorem p2_X1_least (X : zC p m c cc nL s args own D k a) {i t : Nat} (hi : i < 6) (ht : t < 12) (hH : zH D k a s (zUp g i v) H locs) {idx : Nat} {x : Int32} (hl : .fieldLink own idx "KeptPlans$Plan" "least" "I" ∈ GW) (hdg : decode cc pc = .ok (.putfield idx, 3))
    (kk : ∀ (H : Heap) (locs : List Loc), zH D k a s (zUp g i (upd v (13 + 11 * t + 2) x)) H locs → W p l e R s m args below meth c H locs cells slots Q (F0 m (pc + 3) ls (rest))) : W p l e R s m args below meth c H locs cells slots Q (F0 m pc ls (.int x :: .ref (a i (8 + t)) :: rest)) :=
  pf_X1_least X hH hi ht hl hdg (fun H1 locs1 h => kk H1 locs1 (by rw [zUp_s, zUp_u] at h; exact h))
theorem gn_X1_most (X : zC p m c cc nL s args own D k a) (hH : zH D k a s (zUp g 0 v) H locs) {t : Nat} (ht : t < 12) {idx : Nat} (hl : .fieldLink own idx "KeptPlans$Plan" "most" "I" ∈ GW) (hdg : decode cc pc = .ok (.getfield idx, 3))
    (kk : W p l e R s m args below meth c H locs cells slots Q (F0 m (pc + 3) ls (.int (v (13 + 11 * t + 3)) :: rest))) : W p l e R s m args below meth c H locs cells slots Q (F0 m pc ls (.ref (a 0 (8 + t)) :: rest)) :=
  gf_X1_most X hH (by omega) ht hl hdg (by rw [zUp_s]; exact kk)
theorem pn_X1_most (X : zC p m c cc nL s args own D k a) (hH : zH D k a s (zUp g 0 v) H locs) {t : Nat} (ht : t < 12) {idx : Nat} {x : Int32} (hl : .fieldLink own idx "KeptPlans$Plan" "most" "I" ∈ GW) (hdg : decode cc pc = .ok (.putfield idx, 3))
    (kk : ∀ (H : Heap) (locs : List Loc), zH D k a s (zUp g 0 (upd v (13 + 11 * t + 3) x)) H locs → W p l e R s m args below meth c H locs cells slots Q (F0 m (pc + 3) ls (rest))) : W p l e R s m args below meth c H locs cells slots Q (F0 m pc ls (.int x :: .ref (a 0 (8 + t)) :: rest)) :=
  pf_X1_most X hH (by omega) ht hl hdg (fun H1 locs1 h => kk H1 locs1 (by rw [zUp_s, zUp_u] at h; exact h))
theorem g2_X1_most (X : zC p m c cc nL s args own D k a) {i j t : Nat} (hi : i < 6) (hj : j < 6) (hij : j ≠ i) (ht : t < 12) (hH : zH D k a s (zUp g i v) H locs) {idx : Nat} (hl : .fieldLink own idx "KeptPlans$Plan" "most" "I" ∈ GW) (hdg : decode cc pc = .ok (.getfield idx, 3))
    (kk : W p l e R s m args below meth c H locs cells slots Q (F0 m (pc + 3) ls (.int (g j (13 + 11 * t + 3)) :: rest))) : W p l e R s m args below meth c H locs cells slots Q (F0 m pc ls (.ref (a j (8 + t)) :: rest)) :=
  gf_X1_most X hH hj ht hl hdg (by rw [zUp_n _ _ hij]; exact kk)
theorem p2_X1_most (X : zC p m c cc nL s args own D k a) {i t : Nat} (hi : i < 6) (ht : t < 12) (hH : zH D k a s (zUp g i v) H locs) {idx : Nat} {x : Int32} (hl : .fieldLink own idx "KeptPlans$Plan" "most" "I" ∈ GW) (hdg : decode cc pc = .ok (.putfield idx, 3))
    (kk : ∀ (H : Heap) (locs : List Loc), zH D k a s (zUp g i (upd v (13 + 11 * t + 3) x)) H locs → W p l e R s m args below meth c H locs cells slots Q (F0 m (pc + 3) ls (rest))) : W p l e R s m args below meth c H locs cells slots Q (F0 m pc ls (.int x :: .ref (a i (8 + t)) :: rest)) :=
  pf_X1_most X hH hi ht hl hdg (fun H1 locs1 h => kk H1 locs1 (by rw [zUp_s, zUp_u] at h; exact h))
theorem gn_X1_number (X : zC p m c cc nL s args own D k a) (hH : zH D k a s (zUp g 0 v) H locs) {t : Nat} (ht : t < 12) {idx : Nat} (hl : .fieldLink own idx "KeptPlans$Plan" "number" "I" ∈ GW) (hdg : decode cc pc = .ok (.getfield idx, 3))
    (kk : W p l e R s m args below meth c H locs cells slots Q (F0 m (pc + 3) ls (.int (v (13 + 11 * t + 4)) :: rest))) : W p l e R s m args below meth c H locs cells slots Q (F0 m pc ls (.ref (a 0 (8 + t)) :: rest)) :=
  gf_X1_number X hH (by omega) ht hl hdg (by rw [zUp_s]; exact kk)
theorem pn_X1_number (X : zC p m c cc nL s args own D k a) (hH : zH D k a s (zUp g 0 v) H locs) {t : Nat} (ht : t < 12) {idx : Nat} {x : Int32} (hl : .fieldLink own idx "KeptPlans$Plan" "number" "I" ∈ GW) (hdg : decode cc pc = .ok (.putfield idx, 3))
    (kk : ∀ (H : Heap) (locs : List Loc), zH D k a s (zUp g 0 (upd v (13 + 11 * t + 4) x)) H locs → W p l e R s m args below meth c H locs cells slots Q (F0 m (pc + 3) ls (rest))) : W p l e R s m args below meth c H locs cells slots Q (F0 m pc ls (.int x :: .ref (a 0 (8 + t)) :: rest)) :=
  pf_X1_number X hH (by omega) ht hl hdg (fun H1 locs1 h => kk H1 locs1 (by rw [zUp_s, zUp_u] at h; exact h))
theorem g2_X1_number (X : zC p m c cc nL s args own D k a) {i j t : Nat} (hi : i < 6) (hj : j < 6) (hij : j ≠ i) (ht : t < 12) (hH : zH D k a s (zUp g i v) H locs) {idx : Nat} (hl : .fieldLink own idx "KeptPlans$Plan" "number" "I" ∈ GW) (hdg : decode cc pc = .ok (.getfield idx, 3))
    (kk : W p l e R s m args below meth c H locs cells slots Q (F0 m (pc + 3) ls (.int (g j (13 + 11 * t + 4)) :: rest))) : W p l e R s m args below meth c H locs cells slots Q (F0 m pc ls (.ref (a j (8 + t)) :: rest)) :=
  gf_X1_number X hH hj ht hl hdg (by rw [zUp_n _ _ hij]; exact kk)
theorem p2_X1_number (X : zC p m c cc nL s args own D k a) {i t : Nat} (hi : i < 6) (ht : t < 12) (hH : zH D k a s (zUp g i v) H locs) {idx : Nat} {x : Int32} (hl : .fieldLink own idx "KeptPlans$Plan" "number" "I" ∈ GW) (hdg : decode cc pc = .ok (.putfield idx, 3))
    (kk : ∀ (H : Heap) (locs : List Loc), zH D k a s (zUp g i (upd v (13 + 11 * t + 4) x)) H locs → W p l e R s m args below meth c H locs cells slots Q (F0 m (pc + 3) ls (rest))) : W p l e R s m args below meth c H locs cells slots Q (F0 m pc ls (.int x :: .ref (a i (8 + t)) :: rest)) :=
  pf_X1_number X hH hi ht hl hdg (fun H1 locs1 h => kk H1 locs1 (by rw [zUp_s, zUp_u] at h; exact h))
theorem gn_X1_guess (X : zC p m c cc nL s args own D k a) (hH : zH D k a s (zUp g 0 v) H locs) {t : Nat} (ht : t < 12) {idx : Nat} (hl : .fieldLink own idx "KeptPlans$Plan" "guess" "I" ∈ GW) (hdg : decode cc pc = .ok (.getfield idx, 3))
    (kk : W p l e R s m args below meth c H locs cells slots Q (F0 m (pc + 3) ls (.int (v (13 + 11 * t + 5)) :: rest))) : W p l e R s m args below meth c H locs cells slots Q (F0 m pc ls (.ref (a 0 (8 + t)) :: rest)) :=
  gf_X1_guess X hH (by omega) ht hl hdg (by rw [zUp_s]; exact kk)
theorem pn_X1_guess (X : zC p m c cc nL s args own D k a) (hH : zH D k a s (zUp g 0 v) H locs) {t : Nat} (ht : t < 12) {idx : Nat} {x : Int32} (hl : .fieldLink own idx "KeptPlans$Plan" "guess" "I" ∈ GW) (hdg : decode cc pc = .ok (.putfield idx, 3))
    (kk : ∀ (H : Heap) (locs : List Loc), zH D k a s (zUp g 0 (upd v (13 + 11 * t + 5) x)) H locs → W p l e R s m args below meth c H locs cells slots Q (F0 m (pc + 3) ls (rest))) : W p l e R s m args below meth c H locs cells slots Q (F0 m pc ls (.int x :: .ref (a 0 (8 + t)) :: rest)) :=
  pf_X1_guess X hH (by omega) ht hl hdg (fun H1 locs1 h => kk H1 locs1 (by rw [zUp_s, zUp_u] at h; exact h))
theorem g2_X1_guess (X : zC p m c cc nL s args own D k a) {i j t : Nat} (hi : i < 6) (hj : j < 6) (hij : j ≠ i) (ht : t < 12) (hH : zH D k a s (zUp g i v) H locs) {idx : Nat} (hl : .fieldLink own idx "KeptPlans$Plan" "guess" "I" ∈ GW) (hdg : decode cc pc = .ok (.getfield idx, 3))
    (kk : W p l e R s m args below meth c H locs cells slots Q (F0 m (pc + 3) ls (.int (g j (13 + 11 * t + 5)) :: rest))) : W p l e R s m args below meth c H locs cells slots Q (F0 m pc ls (.ref (a j (8 + t)) :: rest)) :=
  gf_X1_guess X hH hj ht hl hdg (by rw [zUp_n _ _ hij]; exact kk)
theorem p2_X1_guess (X : zC p m c cc nL s args own D k a) {i t : Nat} (hi : i < 6) (ht : t < 12) (hH : zH D k a s (zUp g i v) H locs) {idx : Nat} {x : Int32} (hl : .fieldLink own idx "KeptPlans$Plan" "guess" "I" ∈ GW) (hdg : decode cc pc = .ok (.putfield idx, 3))
    (kk : ∀ (H : Heap) (locs : List Loc), zH D k a s (zUp g i (upd v (13 + 11 * t + 5) x)) H locs → W p l e R s m args below meth c H locs cells slots Q (F0 m (pc + 3) ls (rest))) : W p l e R s m args below meth c H locs cells slots Q (F0 m pc ls (.int x :: .ref (a i (8 + t)) :: rest)) :=
  pf_X1_guess X hH hi ht hl hdg (fun H1 locs1 h => kk H1 locs1 (by rw [zUp_s, zUp_u] at h; exact h))
theorem gn_X1_rows (X : zC p m c cc nL s args own D k a) (hH : zH D k a s (zUp g 0 v) H locs) {t : Nat} (ht : t < 12) {idx : Nat} (hl : .fieldLink own idx "KeptPlans$Plan" "rows" "I" ∈ GW) (hdg : decode cc pc = .ok (.getfield idx, 3))
    (kk : W p l e R s m args below meth c H locs cells slots Q (F0 m (pc + 3) ls (.int (v (13 + 11 * t + 10)) :: rest))) : W p l e R s m args below meth c H locs cells slots Q (F0 m pc ls (.ref (a 0 (8 + t)) :: rest)) :=
  gf_X1_rows X hH (by omega) ht hl hdg (by rw [zUp_s]; exact kk)
theorem pn_X1_rows (X : zC p m c cc nL s args own D k a) (hH : zH D k a s (zUp g 0 v) H locs) {t : Nat} (ht : t < 12) {idx : Nat} {x : Int32} (hl : .fieldLink own idx "KeptPlans$Plan" "rows" "I" ∈ GW) (hdg : decode cc pc = .ok (.putfield idx, 3))
    (kk : ∀ (H : Heap) (locs : List Loc), zH D k a s (zUp g 0 (upd v (13 + 11 * t + 10) x)) H locs → W p l e R s m args below meth c H locs cells slots Q (F0 m (pc + 3) ls (rest))) : W p l e R s m args below meth c H locs cells slots Q (F0 m pc ls (.int x :: .ref (a 0 (8 + t)) :: rest)) :=
  pf_X1_rows X hH (by omega) ht hl hdg (fun H1 locs1 h => kk H1 locs1 (by rw [zUp_s, zUp_u] at h; exact h))
theorem g2_X1_rows (X : zC p m c cc nL s args own D k a) {i j t : Nat} (hi : i < 6) (hj : j < 6) (hij : j ≠ i) (ht : t < 12) (hH : zH D k a s (zUp g i v) H locs) {idx : Nat} (hl : .fieldLink own idx "KeptPlans$Plan" "rows" "I" ∈ GW) (hdg : decode cc pc = .ok (.getfield idx, 3))
    (kk : W p l e R s m args below meth c H locs cells slots Q (F0 m (pc + 3) ls (.int (g j (13 + 11 * t + 10)) :: rest))) : W p l e R s m args below meth c H locs cells slots Q (F0 m pc ls (.ref (a j (8 + t)) :: rest)) :=
  gf_X1_rows X hH hj ht hl hdg (by rw [zUp_n _ _ hij]; exact kk)
theorem p2_X1_rows (X : zC p m c cc nL s args own D k a) {i t : Nat} (hi : i < 6) (ht : t < 12) (hH : zH D k a s (zUp g i v) H locs) {idx : Nat} {x : Int32} (hl : .fieldLink own idx "KeptPlans$Plan" "rows" "I" ∈ GW) (hdg : decode cc pc = .ok (.putfield idx, 3))
    (kk : ∀ (H : Heap) (locs : List Loc), zH D k a s (zUp g i (upd v (13 + 11 * t + 10) x)) H locs → W p l e R s m args below meth c H locs cells slots Q (F0 m (pc + 3) ls (rest))) : W p l e R s m args below meth c H locs cells slots Q (F0 m pc ls (.int x :: .ref (a i (8 + t)) :: rest)) :=
  pf_X1_rows X hH hi ht hl hdg (fun H1 locs1 h => kk H1 locs1 (by rw [zUp_s, zUp_u] at h; exact h))
theorem gn_X1_uses (X : zC p m c cc nL s args own D k a) (hH : zH D k a s (zUp g 0 v) H locs) {t : Nat} (ht : t < 12) {idx : Nat} (hl : .fieldLink own idx "KeptPlans$Plan" "uses" "I" ∈ GW) (hdg : decode cc pc = .ok (.getfield idx, 3))
    (kk : W p l e R s m args below meth c H locs cells slots Q (F0 m (pc + 3) ls (.int (v (13 + 11 * t + 9)) :: rest))) : W p l e R s m args below meth c H locs cells slots Q (F0 m pc ls (.ref (a 0 (8 + t)) :: rest)) :=
  gf_X1_uses X hH (by omega) ht hl hdg (by rw [zUp_s]; exact kk)
theorem pn_X1_uses (X : zC p m c cc nL s args own D k a) (hH : zH D k a s (zUp g 0 v) H locs) {t : Nat} (ht : t < 12) {idx : Nat} {x : Int32} (hl : .fieldLink own idx "KeptPlans$Plan" "uses" "I" ∈ GW) (hdg : decode cc pc = .ok (.putfield idx, 3))
    (kk : ∀ (H : Heap) (locs : List Loc), zH D k a s (zUp g 0 (upd v (13 + 11 * t + 9) x)) H locs → W p l e R s m args below meth c H locs cells slots Q (F0 m (pc + 3) ls (rest))) : W p l e R s m args below meth c H locs cells slots Q (F0 m pc ls (.int x :: .ref (a 0 (8 + t)) :: rest)) :=
  pf_X1_uses X hH (by omega) ht hl hdg (fun H1 locs1 h => kk H1 locs1 (by rw [zUp_s, zUp_u] at h; exact h))
theorem g2_X1_uses (X : zC p m c cc nL s args own D k a) {i j t : Nat} (hi : i < 6) (hj : j < 6) (hij : j ≠ i) (ht : t < 12) (hH : zH D k a s (zUp g i v) H locs) {idx : Nat} (hl : .fieldLink own idx "KeptPlans$Plan" "uses" "I" ∈ GW) (hdg : decode cc pc = .ok (.getfield idx, 3))
    (kk : W p l e R s m args below meth c H locs cells slots Q (F0 m (pc + 3) ls (.int (g j (13 + 11 * t + 9)) :: rest))) : W p l e R s m args below meth c H locs cells slots Q (F0 m pc ls (.ref (a j (8 + t)) :: rest)) :=
  gf_X1_uses X hH hj ht hl hdg (by rw [zUp_n _ _ hij]; exact kk)
theorem p2_X1_uses (X : zC p m c cc nL s args own D k a) {i t : Nat} (hi : i < 6) (ht : t < 12) (hH : zH D k a s (zUp g i v) H locs) {idx : Nat} {x : Int32} (hl : .fieldLink own idx "KeptPlans$Plan" "uses" "I" ∈ GW) (hdg : decode cc pc = .ok (.putfield idx, 3))
    (kk : ∀ (H : Heap) (locs : List Loc), zH D k a s (zUp g i (upd v (13 + 11 * t + 9) x)) H locs → W p l e R s m args below meth c H locs cells slots Q (F0 m (pc + 3) ls (rest))) : W p l e R s m args below meth c H locs cells slots Q (F0 m pc ls (.int x :: .ref (a i (8 + t)) :: rest)) :=
  pf_X1_uses X hH hi ht hl hdg (fun H1 locs1 h => kk H1 locs1 (by rw [zUp_s, zUp_u] at h; exact h))
theorem gn_X1_madeAt (X : zC p m c cc nL s args own D k a) (hH : zH D k a s (zUp g 0 v) H locs) {t : Nat} (ht : t < 12) {idx : Nat} (hl : .fieldLink own idx "KeptPlans$Plan" "madeAt" "I" ∈ GW) (hdg : decode cc pc = .ok (.getfield idx, 3))
    (kk : W p l e R s m args below meth c H locs cells slots Q (F0 m (pc + 3) ls (.int (v (13 + 11 * t + 6)) :: rest))) : W p l e R s m args below meth c H locs cells slots Q (F0 m pc ls (.ref (a 0 (8 + t)) :: rest)) :=
  gf_X1_madeAt X hH (by omega) ht hl hdg (by rw [zUp_s]; exact kk)
theorem pn_X1_madeAt (X : zC p m c cc nL s args own D k a) (hH : zH D k a s (zUp g 0 v) H locs) {t : Nat} (ht : t < 12) {idx : Nat} {x : Int32} (hl : .fieldLink own idx "KeptPlans$Plan" "madeAt" "I" ∈ GW) (hdg : decode cc pc = .ok (.putfield idx, 3))
    (kk : ∀ (H : Heap) (locs : List Loc), zH D k a s (zUp g 0 (upd v (13 + 11 * t + 6) x)) H locs → W p l e R s m args below meth c H locs cells slots Q (F0 m (pc + 3) ls (rest))) : W p l e R s m args below meth c H locs cells slots Q (F0 m pc ls (.int x :: .ref (a 0 (8 + t)) :: rest)) :=
  pf_X1_madeAt X hH (by omega) ht hl hdg (fun H1 locs1 h => kk H1 locs1 (by rw [zUp_s, zUp_u] at h; exact h))
theorem g2_X1_madeAt (X : zC p m c cc nL s args own D k a) {i j t : Nat} (hi : i < 6) (hj : j < 6) (hij : j ≠ i) (ht : t < 12) (hH : zH D k a s (zUp g i v) H locs) {idx : Nat} (hl : .fieldLink own idx "KeptPlans$Plan" "madeAt" "I" ∈ GW) (hdg : decode cc pc = .ok (.getfield idx, 3))
    (kk : W p l e R s m args below meth c H locs cells slots Q (F0 m (pc + 3) ls (.int (g j (13 + 11 * t + 6)) :: rest))) : W p l e R s m args below meth c H locs cells slots Q (F0 m pc ls (.ref (a j (8 + t)) :: rest)) :=
  gf_X1_madeAt X hH hj ht hl hdg (by rw [zUp_n _ _ hij]; exact kk)
theorem p2_X1_madeAt (X : zC p m c cc nL s args own D k a) {i t : Nat} (hi : i < 6) (ht : t < 12) (hH : zH D k a s (zUp g i v) H locs) {idx : Nat} {x : Int32} (hl : .fieldLink own idx "KeptPlans$Plan" "madeAt" "I" ∈ GW) (hdg : decode cc pc = .ok (.putfield idx, 3))
    (kk : ∀ (H : Heap) (locs : List Loc), zH D k a s (zUp g i (upd v (13 + 11 * t + 6) x)) H locs → W p l e R s m args below meth c H locs cells slots Q (F0 m (pc + 3) ls (rest))) : W p l e R s m args below meth c H locs cells slots Q (F0 m pc ls (.int x :: .ref (a i (8 + t)) :: rest)) :=
  pf_X1_madeAt X hH hi ht hl hdg (fun H1 locs1 h => kk H1 locs1 (by rw [zUp_s, zUp_u] at h; exact h))
theorem gn_X1_usedAt (X : zC p m c cc nL s args own D k a) (hH : zH D k a s (zUp g 0 v) H locs) {t : Nat} (ht : t < 12) {idx : Nat} (hl : .fieldLink own idx "KeptPlans$Plan" "usedAt" "I" ∈ GW) (hdg : decode cc pc = .ok (.getfield idx, 3))
    (kk : W p l e R s m args below meth c H locs cells slots Q (F0 m (pc + 3) ls (.int (v (13 + 11 * t + 7)) :: rest))) : W p l e R s m args below meth c H locs cells slots Q (F0 m pc ls (.ref (a 0 (8 + t)) :: rest)) :=
  gf_X1_usedAt X hH (by omega) ht hl hdg (by rw [zUp_s]; exact kk)
theorem pn_X1_usedAt (X : zC p m c cc nL s args own D k a) (hH : zH D k a s (zUp g 0 v) H locs) {t : Nat} (ht : t < 12) {idx : Nat} {x : Int32} (hl : .fieldLink own idx "KeptPlans$Plan" "usedAt" "I" ∈ GW) (hdg : decode cc pc = .ok (.putfield idx, 3))
    (kk : ∀ (H : Heap) (locs : List Loc), zH D k a s (zUp g 0 (upd v (13 + 11 * t + 7) x)) H locs → W p l e R s m args below meth c H locs cells slots Q (F0 m (pc + 3) ls (rest))) : W p l e R s m args below meth c H locs cells slots Q (F0 m pc ls (.int x :: .ref (a 0 (8 + t)) :: rest)) :=
  pf_X1_usedAt X hH (by omega) ht hl hdg (fun H1 locs1 h => kk H1 locs1 (by rw [zUp_s, zUp_u] at h; exact h))
theorem g2_X1_usedAt (X : zC p m c cc nL s args own D k a) {i j t : Nat} (hi : i < 6) (hj : j < 6) (hij : j ≠ i) (ht : t < 12) (hH : zH D k a s (zUp g i v) H locs) {idx : Nat} (hl : .fieldLink own idx "KeptPlans$Plan" "usedAt" "I" ∈ GW) (hdg : decode cc pc = .ok (.getfield idx, 3))
    (kk : W p l e R s m args below meth c H locs cells slots Q (F0 m (pc + 3) ls (.int (g j (13 + 11 * t + 7)) :: rest))) : W p l e R s m args below meth c H locs cells slots Q (F0 m pc ls (.ref (a j (8 + t)) :: rest)) :=
  gf_X1_usedAt X hH hj ht hl hdg (by rw [zUp_n _ _ hij]; exact kk)
theorem p2_X1_usedAt (X : zC p m c cc nL s args own D k a) {i t : Nat} (hi : i < 6) (ht : t < 12) (hH : zH D k a s (zUp g i v) H locs) {idx : Nat} {x : Int32} (hl : .fieldLink own idx "KeptPlans$Plan" "usedAt" "I" ∈ GW) (hdg : decode cc pc = .ok (.putfield idx, 3))
    (kk : ∀ (H : Heap) (locs : List Loc), zH D k a s (zUp g i (upd v (13 + 11 * t + 7) x)) H locs → W p l e R s m args below meth c H locs cells slots Q (F0 m (pc + 3) ls (rest))) : W p l e R s m args below meth c H locs cells slots Q (F0 m pc ls (.int x :: .ref (a i (8 + t)) :: rest)) :=
  pf_X1_usedAt X hH hi ht hl hdg (fun H1 locs1 h => kk H1 locs1 (by rw [zUp_s, zUp_u] at h; exact h))
theorem gn_X4_rows (X : zC p m c cc nL s args own D k a) (hH : zH D k a s (zUp g 0 v) H locs) {t : Nat} (ht : t < 4) {idx : Nat} (hl : .fieldLink own idx "KeptPlans$Table" "rows" "I" ∈ GW) (hdg : decode cc pc = .ok (.getfield idx, 3))
    (kk : W p l e R s m args below meth c H locs cells slots Q (F0 m (pc + 3) ls (.int (v t) :: rest))) : W p l e R s m args below meth c H locs cells slots Q (F0 m pc ls (.ref (a 0 (4 + t)) :: rest)) :=
  gf_X4_rows X hH (by omega) ht hl hdg (by rw [zUp_s]; exact kk)
theorem pn_X4_rows (X : zC p m c cc nL s args own D k a) (hH : zH D k a s (zUp g 0 v) H locs) {t : Nat} (ht : t < 4) {idx : Nat} {x : Int32} (hl : .fieldLink own idx "KeptPlans$Table" "rows" "I" ∈ GW) (hdg : decode cc pc = .ok (.putfield idx, 3))
    (kk : ∀ (H : Heap) (locs : List Loc), zH D k a s (zUp g 0 (upd v t x)) H locs → W p l e R s m args below meth c H locs cells slots Q (F0 m (pc + 3) ls (rest))) : W p l e R s m args below meth c H locs cells slots Q (F0 m pc ls (.int x :: .ref (a 0 (4 + t)) :: rest)) :=
  pf_X4_rows X hH (by omega) ht hl hdg (fun H1 locs1 h => kk H1 locs1 (by rw [zUp_s, zUp_u] at h; exact h))
theorem g2_X4_rows (X : zC p m c cc nL s args own D k a) {i j t : Nat} (hi : i < 6) (hj : j < 6) (hij : j ≠ i) (ht : t < 4) (hH : zH D k a s (zUp g i v) H locs) {idx : Nat} (hl : .fieldLink own idx "KeptPlans$Table" "rows" "I" ∈ GW) (hdg : decode cc pc = .ok (.getfield idx, 3))
    (kk : W p l e R s m args below meth c H locs cells slots Q (F0 m (pc + 3) ls (.int (g j t) :: rest))) : W p l e R s m args below meth c H locs cells slots Q (F0 m pc ls (.ref (a j (4 + t)) :: rest)) :=
  gf_X4_rows X hH hj ht hl hdg (by rw [zUp_n _ _ hij]; exact kk)
theorem p2_X4_rows (X : zC p m c cc nL s args own D k a) {i t : Nat} (hi : i < 6) (ht : t < 4) (hH : zH D k a s (zUp g i v) H locs) {idx : Nat} {x : Int32} (hl : .fieldLink own idx "KeptPlans$Table" "rows" "I" ∈ GW) (hdg : decode cc pc = .ok (.putfield idx, 3))
    (kk : ∀ (H : Heap) (locs : List Loc), zH D k a s (zUp g i (upd v t x)) H locs → W p l e R s m args below meth c H locs cells slots Q (F0 m (pc + 3) ls (rest))) : W p l e R s m args below meth c H locs cells slots Q (F0 m pc ls (.int x :: .ref (a i (4 + t)) :: rest)) :=
  pf_X4_rows X hH hi ht hl hdg (fun H1 locs1 h => kk H1 locs1 (by rw [zUp_s, zUp_u] at h; exact h))
theorem gn_X4_keys (X : zC p m c cc nL s args own D k a) (hH : zH D k a s (zUp g 0 v) H locs) {t : Nat} (ht : t < 4) {idx : Nat} (hl : .fieldLink own idx "KeptPlans$Table" "keys" "I" ∈ GW) (hdg : decode cc pc = .ok (.getfield idx, 3))
    (kk : W p l e R s m args below meth c H locs cells slots Q (F0 m (pc + 3) ls (.int (v (4 + t)) :: rest))) : W p l e R s m args below meth c H locs cells slots Q (F0 m pc ls (.ref (a 0 (4 + t)) :: rest)) :=
  gf_X4_keys X hH (by omega) ht hl hdg (by rw [zUp_s]; exact kk)
theorem pn_X4_keys (X : zC p m c cc nL s args own D k a) (hH : zH D k a s (zUp g 0 v) H locs) {t : Nat} (ht : t < 4) {idx : Nat} {x : Int32} (hl : .fieldLink own idx "KeptPlans$Table" "keys" "I" ∈ GW) (hdg : decode cc pc = .ok (.putfield idx, 3))
    (kk : ∀ (H : Heap) (locs : List Loc), zH D k a s (zUp g 0 (upd v (4 + t) x)) H locs → W p l e R s m args below meth c H locs cells slots Q (F0 m (pc + 3) ls (rest))) : W p l e R s m args below meth c H locs cells slots Q (F0 m pc ls (.int x :: .ref (a 0 (4 + t)) :: rest)) :=
  pf_X4_keys X hH (by omega) ht hl hdg (fun H1 locs1 h => kk H1 locs1 (by rw [zUp_s, zUp_u] at h; exact h))
theorem g2_X4_keys (X : zC p m c cc nL s args own D k a) {i j t : Nat} (hi : i < 6) (hj : j < 6) (hij : j ≠ i) (ht : t < 4) (hH : zH D k a s (zUp g i v) H locs) {idx : Nat} (hl : .fieldLink own idx "KeptPlans$Table" "keys" "I" ∈ GW) (hdg : decode cc pc = .ok (.getfield idx, 3))
    (kk : W p l e R s m args below meth c H locs cells slots Q (F0 m (pc + 3) ls (.int (g j (4 + t)) :: rest))) : W p l e R s m args below meth c H locs cells slots Q (F0 m pc ls (.ref (a j (4 + t)) :: rest)) :=
  gf_X4_keys X hH hj ht hl hdg (by rw [zUp_n _ _ hij]; exact kk)
theorem p2_X4_keys (X : zC p m c cc nL s args own D k a) {i t : Nat} (hi : i < 6) (ht : t < 4) (hH : zH D k a s (zUp g i v) H locs) {idx : Nat} {x : Int32} (hl : .fieldLink own idx "KeptPlans$Table" "keys" "I" ∈ GW) (hdg : decode cc pc = .ok (.putfield idx, 3))
    (kk : ∀ (H : Heap) (locs : List Loc), zH D k a s (zUp g i (upd v (4 + t) x)) H locs → W p l e R s m args below meth c H locs cells slots Q (F0 m (pc + 3) ls (rest))) : W p l e R s m args below meth c H locs cells slots Q (F0 m pc ls (.int x :: .ref (a i (4 + t)) :: rest)) :=
  pf_X4_keys X hH hi ht hl hdg (fun H1 locs1 h => kk H1 locs1 (by rw [zUp_s, zUp_u] at h; exact h))
theorem gn_X4_questions (X : zC p m c cc nL s args own D k a) (hH : zH D k a s (zUp g 0 v) H locs) {t : Nat} (ht : t < 4) {idx : Nat} (hl : .fieldLink own idx "KeptPlans$Table" "questions" "I" ∈ GW) (hdg : decode cc pc = .ok (.getfield idx, 3))
    (kk : W p l e R s m args below meth c H locs cells slots Q (F0 m (pc + 3) ls (.int (v (152 + t)) :: rest))) : W p l e R s m args below meth c H locs cells slots Q (F0 m pc ls (.ref (a 0 (4 + t)) :: rest)) :=
  gf_X4_questions X hH (by omega) ht hl hdg (by rw [zUp_s]; exact kk)
theorem pn_X4_questions (X : zC p m c cc nL s args own D k a) (hH : zH D k a s (zUp g 0 v) H locs) {t : Nat} (ht : t < 4) {idx : Nat} {x : Int32} (hl : .fieldLink own idx "KeptPlans$Table" "questions" "I" ∈ GW) (hdg : decode cc pc = .ok (.putfield idx, 3))
    (kk : ∀ (H : Heap) (locs : List Loc), zH D k a s (zUp g 0 (upd v (152 + t) x)) H locs → W p l e R s m args below meth c H locs cells slots Q (F0 m (pc + 3) ls (rest))) : W p l e R s m args below meth c H locs cells slots Q (F0 m pc ls (.int x :: .ref (a 0 (4 + t)) :: rest)) :=
  pf_X4_questions X hH (by omega) ht hl hdg (fun H1 locs1 h => kk H1 locs1 (by rw [zUp_s, zUp_u] at h; exact h))
theorem g2_X4_questions (X : zC p m c cc nL s args own D k a) {i j t : Nat} (hi : i < 6) (hj : j < 6) (hij : j ≠ i) (ht : t < 4) (hH : zH D k a s (zUp g i v) H locs) {idx : Nat} (hl : .fieldLink own idx "KeptPlans$Table" "questions" "I" ∈ GW) (hdg : decode cc pc = .ok (.getfield idx, 3))
    (kk : W p l e R s m args below meth c H locs cells slots Q (F0 m (pc + 3) ls (.int (g j (152 + t)) :: rest))) : W p l e R s m args below meth c H locs cells slots Q (F0 m pc ls (.ref (a j (4 + t)) :: rest)) :=
  gf_X4_questions X hH hj ht hl hdg (by rw [zUp_n _ _ hij]; exact kk)
theorem p2_X4_questions (X : zC p m c cc nL s args own D k a) {i t : Nat} (hi : i < 6) (ht : t < 4) (hH : zH D k a s (zUp g i v) H locs) {idx : Nat} {x : Int32} (hl : .fieldLink own idx "KeptPlans$Table" "questions" "I" ∈ GW) (hdg : decode cc pc = .ok (.putfield idx, 3))
    (kk : ∀ (H : Heap) (locs : List Loc), zH D k a s (zUp g i (upd v (152 + t) x)) H locs → W p l e R s m args below meth c H locs cells slots Q (F0 m (pc + 3) ls (rest))) : W p l e R s m args below meth c H locs cells slots Q (F0 m pc ls (.int x :: .ref (a i (4 + t)) :: rest)) :=
  pf_X4_questions X hH hi ht hl hdg (fun H1 locs1 h => kk H1 locs1 (by rw [zUp_s, zUp_u] at h; exact h))
theorem gn_X4_spent (X : zC p m c cc nL s args own D k a) (hH : zH D k a s (zUp g 0 v) H locs) {t : Nat} (ht : t < 4) {idx : Nat} (hl : .fieldLink own idx "KeptPlans$Table" "spent" "I" ∈ GW) (hdg : decode cc pc = .ok (.getfield idx, 3))
    (kk : W p l e R s m args below meth c H locs cells slots Q (F0 m (pc + 3) ls (.int (v (156 + t)) :: rest))) : W p l e R s m args below meth c H locs cells slots Q (F0 m pc ls (.ref (a 0 (4 + t)) :: rest)) :=
  gf_X4_spent X hH (by omega) ht hl hdg (by rw [zUp_s]; exact kk)
theorem pn_X4_spent (X : zC p m c cc nL s args own D k a) (hH : zH D k a s (zUp g 0 v) H locs) {t : Nat} (ht : t < 4) {idx : Nat} {x : Int32} (hl : .fieldLink own idx "KeptPlans$Table" "spent" "I" ∈ GW) (hdg : decode cc pc = .ok (.putfield idx, 3))
    (kk : ∀ (H : Heap) (locs : List Loc), zH D k a s (zUp g 0 (upd v (156 + t) x)) H locs → W p l e R s m args below meth c H locs cells slots Q (F0 m (pc + 3) ls (rest))) : W p l e R s m args below meth c H locs cells slots Q (F0 m pc ls (.int x :: .ref (a 0 (4 + t)) :: rest)) :=
  pf_X4_spent X hH (by omega) ht hl hdg (fun H1 locs1 h => kk H1 locs1 (by rw [zUp_s, zUp_u] at h; exact h))
theorem g2_X4_spent (X : zC p m c cc nL s args own D k a) {i j t : Nat} (hi : i < 6) (hj : j < 6) (hij : j ≠ i) (ht : t < 4) (hH : zH D k a s (zUp g i v) H locs) {idx : Nat} (hl : .fieldLink own idx "KeptPlans$Table" "spent" "I" ∈ GW) (hdg : decode cc pc = .ok (.getfield idx, 3))
    (kk : W p l e R s m args below meth c H locs cells slots Q (F0 m (pc + 3) ls (.int (g j (156 + t)) :: rest))) : W p l e R s m args below meth c H locs cells slots Q (F0 m pc ls (.ref (a j (4 + t)) :: rest)) :=
  gf_X4_spent X hH hj ht hl hdg (by rw [zUp_n _ _ hij]; exact kk)
theorem p2_X4_spent (X : zC p m c cc nL s args own D k a) {i t : Nat} (hi : i < 6) (ht : t < 4) (hH : zH D k a s (zUp g i v) H locs) {idx : Nat} {x : Int32} (hl : .fieldLink own idx "KeptPlans$Table" "spent" "I" ∈ GW) (hdg : decode cc pc = .ok (.putfield idx, 3))
    (kk : ∀ (H : Heap) (locs : List Loc), zH D k a s (zUp g i (upd v (156 + t) x)) H locs → W p l e R s m args below meth c H locs cells slots Q (F0 m (pc + 3) ls (rest))) : W p l e R s m args below meth c H locs cells slots Q (F0 m pc ls (.int x :: .ref (a i (4 + t)) :: rest)) :=
  pf_X4_spent X hH hi ht hl hdg (fun H1 locs1 h => kk H1 locs1 (by rw [zUp_s, zUp_u] at h; exact h))
theorem gn_X3_questions (X : zC p m c cc nL s args own D k a) (hH : zH D k a s (zUp g 0 v) H locs)  {idx : Nat} (hl : .fieldLink own idx "KeptPlans$State" "questions" "I" ∈ GW) (hdg : decode cc pc = .ok (.getfield idx, 3))
    (kk : W p l e R s m args below meth c H locs cells slots Q (F0 m (pc + 3) ls (.int (v 145) :: rest))) : W p l e R s m args below meth c H locs cells slots Q (F0 m pc ls (.ref (a 0 0) :: rest)) :=
  gf_X3_questions X hH (by omega) hl hdg (by rw [zUp_s]; exact kk)
theorem pn_X3_questions (X : zC p m c cc nL s args own D k a) (hH : zH D k a s (zUp g 0 v) H locs)  {idx : Nat} {x : Int32} (hl : .fieldLink own idx "KeptPlans$State" "questions" "I" ∈ GW) (hdg : decode cc pc = .ok (.putfield idx, 3))
    (kk : ∀ (H : Heap) (locs : List Loc), zH D k a s (zUp g 0 (upd v 145 x)) H locs → W p l e R s m args below meth c H locs cells slots Q (F0 m (pc + 3) ls (rest))) : W p l e R s m args below meth c H locs cells slots Q (F0 m pc ls (.int x :: .ref (a 0 0) :: rest)) :=
  pf_X3_questions X hH (by omega) hl hdg (fun H1 locs1 h => kk H1 locs1 (by rw [zUp_s, zUp_u] at h; exact h))
theorem g2_X3_questions (X : zC p m c cc nL s args own D k a) {i j : Nat} (hi : i < 6) (hj : j < 6) (hij : j ≠ i) (hH : zH D k a s (zUp g i v) H locs) {idx : Nat} (hl : .fieldLink own idx "KeptPlans$State" "questions" "I" ∈ GW) (hdg : decode cc pc = .ok (.getfield idx, 3))
    (kk : W p l e R s m args below meth c H locs cells slots Q (F0 m (pc + 3) ls (.int (g j 145) :: rest))) : W p l e R s m args below meth c H locs cells slots Q (F0 m pc ls (.ref (a j 0) :: rest)) :=
  gf_X3_questions X hH hj hl hdg (by rw [zUp_n _ _ hij]; exact kk)
theorem p2_X3_questions (X : zC p m c cc nL s args own D k a) {i : Nat} (hi : i < 6) (hH : zH D k a s (zUp g i v) H locs) {idx : Nat} {x : Int32} (hl : .fieldLink own idx "KeptPlans$State" "questions" "I" ∈ GW) (hdg : decode cc pc = .ok (.putfield idx, 3))
    (kk : ∀ (H : Heap) (locs : List Loc), zH D k a s (zUp g i (upd v 145 x)) H locs → W p l e R s m args below meth c H locs cells slots Q (F0 m (pc + 3) ls (rest))) : W p l e R s m args below meth c H locs cells slots Q (F0 m pc ls (.int x :: .ref (a i 0) :: rest)) :=
  pf_X3_questions X hH hi hl hdg (fun H1 locs1 h => kk H1 locs1 (by rw [zUp_s, zUp_u] at h; exact h))
theorem gn_X3_hits (X : zC p m c cc nL s args own D k a) (hH : zH D k a s (zUp g 0 v) H locs)  {idx : Nat} (hl : .fieldLink own idx "KeptPlans$State" "hits" "I" ∈ GW) (hdg : decode cc pc = .ok (.getfield idx, 3))
    (kk : W p l e R s m args below meth c H locs cells slots Q (F0 m (pc + 3) ls (.int (v 146) :: rest))) : W p l e R s m args below meth c H locs cells slots Q (F0 m pc ls (.ref (a 0 0) :: rest)) :=
  gf_X3_hits X hH (by omega) hl hdg (by rw [zUp_s]; exact kk)
theorem pn_X3_hits (X : zC p m c cc nL s args own D k a) (hH : zH D k a s (zUp g 0 v) H locs)  {idx : Nat} {x : Int32} (hl : .fieldLink own idx "KeptPlans$State" "hits" "I" ∈ GW) (hdg : decode cc pc = .ok (.putfield idx, 3))
    (kk : ∀ (H : Heap) (locs : List Loc), zH D k a s (zUp g 0 (upd v 146 x)) H locs → W p l e R s m args below meth c H locs cells slots Q (F0 m (pc + 3) ls (rest))) : W p l e R s m args below meth c H locs cells slots Q (F0 m pc ls (.int x :: .ref (a 0 0) :: rest)) :=
  pf_X3_hits X hH (by omega) hl hdg (fun H1 locs1 h => kk H1 locs1 (by rw [zUp_s, zUp_u] at h; exact h))
theorem g2_X3_hits (X : zC p m c cc nL s args own D k a) {i j : Nat} (hi : i < 6) (hj : j < 6) (hij : j ≠ i) (hH : zH D k a s (zUp g i v) H locs) {idx : Nat} (hl : .fieldLink own idx "KeptPlans$State" "hits" "I" ∈ GW) (hdg : decode cc pc = .ok (.getfield idx, 3))
    (kk : W p l e R s m args below meth c H locs cells slots Q (F0 m (pc + 3) ls (.int (g j 146) :: rest))) : W p l e R s m args below meth c H locs cells slots Q (F0 m pc ls (.ref (a j 0) :: rest)) :=
  gf_X3_hits X hH hj hl hdg (by rw [zUp_n _ _ hij]; exact kk)
theorem p2_X3_hits (X : zC p m c cc nL s args own D k a) {i : Nat} (hi : i < 6) (hH : zH D k a s (zUp g i v) H locs) {idx : Nat} {x : Int32} (hl : .fieldLink own idx "KeptPlans$State" "hits" "I" ∈ GW) (hdg : decode cc pc = .ok (.putfield idx, 3))
    (kk : ∀ (H : Heap) (locs : List Loc), zH D k a s (zUp g i (upd v 146 x)) H locs → W p l e R s m args below meth c H locs cells slots Q (F0 m (pc + 3) ls (rest))) : W p l e R s m args below meth c H locs cells slots Q (F0 m pc ls (.int x :: .ref (a i 0) :: rest)) :=
  pf_X3_hits X hH hi hl hdg (fun H1 locs1 h => kk H1 locs1 (by rw [zUp_s, zUp_u] at h; exact h))
theorem gn_X3_misses (X : zC p m c cc nL s args own D k a) (hH : zH D k a s (zUp g 0 v) H locs)  {idx : Nat} (hl : .fieldLink own idx "KeptPlans$State" "misses" "I" ∈ GW) (hdg : decode cc pc = .ok (.getfield idx, 3))
    (kk : W p l e R s m args below meth c H locs cells slots Q (F0 m (pc + 3) ls (.int (v 147) :: rest))) : W p l e R s m args below meth c H locs cells slots Q (F0 m pc ls (.ref (a 0 0) :: rest)) :=
  gf_X3_misses X hH (by omega) hl hdg (by rw [zUp_s]; exact kk)
theorem pn_X3_misses (X : zC p m c cc nL s args own D k a) (hH : zH D k a s (zUp g 0 v) H locs)  {idx : Nat} {x : Int32} (hl : .fieldLink own idx "KeptPlans$State" "misses" "I" ∈ GW) (hdg : decode cc pc = .ok (.putfield idx, 3))
    (kk : ∀ (H : Heap) (locs : List Loc), zH D k a s (zUp g 0 (upd v 147 x)) H locs → W p l e R s m args below meth c H locs cells slots Q (F0 m (pc + 3) ls (rest))) : W p l e R s m args below meth c H locs cells slots Q (F0 m pc ls (.int x :: .ref (a 0 0) :: rest)) :=
  pf_X3_misses X hH (by omega) hl hdg (fun H1 locs1 h => kk H1 locs1 (by rw [zUp_s, zUp_u] at h; exact h))
theorem g2_X3_misses (X : zC p m c cc nL s args own D k a) {i j : Nat} (hi : i < 6) (hj : j < 6) (hij : j ≠ i) (hH : zH D k a s (zUp g i v) H locs) {idx : Nat} (hl : .fieldLink own idx "KeptPlans$State" "misses" "I" ∈ GW) (hdg : decode cc pc = .ok (.getfield idx, 3))
    (kk : W p l e R s m args below meth c H locs cells slots Q (F0 m (pc + 3) ls (.int (g j 147) :: rest))) : W p l e R s m args below meth c H locs cells slots Q (F0 m pc ls (.ref (a j 0) :: rest)) :=
  gf_X3_misses X hH hj hl hdg (by rw [zUp_n _ _ hij]; exact kk)
theorem p2_X3_misses (X : zC p m c cc nL s args own D k a) {i : Nat} (hi : i < 6) (hH : zH D k a s (zUp g i v) H locs) {idx : Nat} {x : Int32} (hl : .fieldLink own idx "KeptPlans$State" "misses" "I" ∈ GW) (hdg : decode cc pc = .ok (.putfield idx, 3))
    (kk : ∀ (H : Heap) (locs : List Loc), zH D k a s (zUp g i (upd v 147 x)) H locs → W p l e R s m args below meth c H locs cells slots Q (F0 m (pc + 3) ls (rest))) : W p l e R s m args below meth c H locs cells slots Q (F0 m pc ls (.int x :: .ref (a i 0) :: rest)) :=
  pf_X3_misses X hH hi hl hdg (fun H1 locs1 h => kk H1 locs1 (by rw [zUp_s, zUp_u] at h; exact h))
theorem gn_X3_spent (X : zC p m c cc nL s args own D k a) (hH : zH D k a s (zUp g 0 v) H locs)  {idx : Nat} (hl : .fieldLink own idx "KeptPlans$State" "spent" "I" ∈ GW) (hdg : decode cc pc = .ok (.getfield idx, 3))
    (kk : W p l e R s m args below meth c H locs cells slots Q (F0 m (pc + 3) ls (.int (v 148) :: rest))) : W p l e R s m args below meth c H locs cells slots Q (F0 m pc ls (.ref (a 0 0) :: rest)) :=
  gf_X3_spent X hH (by omega) hl hdg (by rw [zUp_s]; exact kk)
theorem pn_X3_spent (X : zC p m c cc nL s args own D k a) (hH : zH D k a s (zUp g 0 v) H locs)  {idx : Nat} {x : Int32} (hl : .fieldLink own idx "KeptPlans$State" "spent" "I" ∈ GW) (hdg : decode cc pc = .ok (.putfield idx, 3))
    (kk : ∀ (H : Heap) (locs : List Loc), zH D k a s (zUp g 0 (upd v 148 x)) H locs → W p l e R s m args below meth c H locs cells slots Q (F0 m (pc + 3) ls (rest))) : W p l e R s m args below meth c H locs cells slots Q (F0 m pc ls (.int x :: .ref (a 0 0) :: rest)) :=
  pf_X3_spent X hH (by omega) hl hdg (fun H1 locs1 h => kk H1 locs1 (by rw [zUp_s, zUp_u] at h; exact h))
theorem g2_X3_spent (X : zC p m c cc nL s args own D k a) {i j : Nat} (hi : i < 6) (hj : j < 6) (hij : j ≠ i) (hH : zH D k a s (zUp g i v) H locs) {idx : Nat} (hl : .fieldLink own idx "KeptPlans$State" "spent" "I" ∈ GW) (hdg : decode cc pc = .ok (.getfield idx, 3))
    (kk : W p l e R s m args below meth c H locs cells slots Q (F0 m (pc + 3) ls (.int (g j 148) :: rest))) : W p l e R s m args below meth c H locs cells slots Q (F0 m pc ls (.ref (a j 0) :: rest)) :=
  gf_X3_spent X hH hj hl hdg (by rw [zUp_n _ _ hij]; exact kk)
theorem p2_X3_spent (X : zC p m c cc nL s args own D k a) {i : Nat} (hi : i < 6) (hH : zH D k a s (zUp g i v) H locs) {idx : Nat} {x : Int32} (hl : .fieldLink own idx "KeptPlans$State" "spent" "I" ∈ GW) (hdg : decode cc pc = .ok (.putfield idx, 3))
    (kk : ∀ (H : Heap) (locs : List Loc), zH D k a s (zUp g i (upd v 148 x)) H locs → W p l e R s m args below meth c H locs cells slots Q (F0 m (pc + 3) ls (rest))) : W p l e R s m args below meth c H locs cells slots Q (F0 m pc ls (.int x :: .ref (a i 0) :: rest)) :=
  pf_X3_spent X hH hi hl hdg (fun H1 locs1 h => kk H1 locs1 (by rw [zUp_s, zUp_u] at h; exact h))
theorem gn_X3_spentLooking (X : zC p m c cc nL s args own D k a) (hH : zH D k a s (zUp g 0 v) H locs)  {idx : Nat} (hl : .fieldLink own idx "KeptPlans$State" "spentLooking" "I" ∈ GW) (hdg : decode cc pc = .ok (.getfield idx, 3))
    (kk : W p l e R s m args below meth c H locs cells slots Q (F0 m (pc + 3) ls (.int (v 149) :: rest))) : W p l e R s m args below meth c H locs cells slots Q (F0 m pc ls (.ref (a 0 0) :: rest)) :=
  gf_X3_spentLooking X hH (by omega) hl hdg (by rw [zUp_s]; exact kk)
theorem pn_X3_spentLooking (X : zC p m c cc nL s args own D k a) (hH : zH D k a s (zUp g 0 v) H locs)  {idx : Nat} {x : Int32} (hl : .fieldLink own idx "KeptPlans$State" "spentLooking" "I" ∈ GW) (hdg : decode cc pc = .ok (.putfield idx, 3))
    (kk : ∀ (H : Heap) (locs : List Loc), zH D k a s (zUp g 0 (upd v 149 x)) H locs → W p l e R s m args below meth c H locs cells slots Q (F0 m (pc + 3) ls (rest))) : W p l e R s m args below meth c H locs cells slots Q (F0 m pc ls (.int x :: .ref (a 0 0) :: rest)) :=
  pf_X3_spentLooking X hH (by omega) hl hdg (fun H1 locs1 h => kk H1 locs1 (by rw [zUp_s, zUp_u] at h; exact h))
theorem g2_X3_spentLooking (X : zC p m c cc nL s args own D k a) {i j : Nat} (hi : i < 6) (hj : j < 6) (hij : j ≠ i) (hH : zH D k a s (zUp g i v) H locs) {idx : Nat} (hl : .fieldLink own idx "KeptPlans$State" "spentLooking" "I" ∈ GW) (hdg : decode cc pc = .ok (.getfield idx, 3))
    (kk : W p l e R s m args below meth c H locs cells slots Q (F0 m (pc + 3) ls (.int (g j 149) :: rest))) : W p l e R s m args below meth c H locs cells slots Q (F0 m pc ls (.ref (a j 0) :: rest)) :=
  gf_X3_spentLooking X hH hj hl hdg (by rw [zUp_n _ _ hij]; exact kk)
theorem p2_X3_spentLooking (X : zC p m c cc nL s args own D k a) {i : Nat} (hi : i < 6) (hH : zH D k a s (zUp g i v) H locs) {idx : Nat} {x : Int32} (hl : .fieldLink own idx "KeptPlans$State" "spentLooking" "I" ∈ GW) (hdg : decode cc pc = .ok (.putfield idx, 3))
    (kk : ∀ (H : Heap) (locs : List Loc), zH D k a s (zUp g i (upd v 149 x)) H locs → W p l e R s m args below meth c H locs cells slots Q (F0 m (pc + 3) ls (rest))) : W p l e R s m args below meth c H locs cells slots Q (F0 m pc ls (.int x :: .ref (a i 0) :: rest)) :=
  pf_X3_spentLooking X hH hi hl hdg (fun H1 locs1 h => kk H1 locs1 (by rw [zUp_s, zUp_u] at h; exact h))
theorem gn_X3_turnedBad (X : zC p m c cc nL s args own D k a) (hH : zH D k a s (zUp g 0 v) H locs)  {idx : Nat} (hl : .fieldLink own idx "KeptPlans$State" "turnedBad" "I" ∈ GW) (hdg : decode cc pc = .ok (.getfield idx, 3))
    (kk : W p l e R s m args below meth c H locs cells slots Q (F0 m (pc + 3) ls (.int (v 150) :: rest))) : W p l e R s m args below meth c H locs cells slots Q (F0 m pc ls (.ref (a 0 0) :: rest)) :=
  gf_X3_turnedBad X hH (by omega) hl hdg (by rw [zUp_s]; exact kk)
theorem pn_X3_turnedBad (X : zC p m c cc nL s args own D k a) (hH : zH D k a s (zUp g 0 v) H locs)  {idx : Nat} {x : Int32} (hl : .fieldLink own idx "KeptPlans$State" "turnedBad" "I" ∈ GW) (hdg : decode cc pc = .ok (.putfield idx, 3))
    (kk : ∀ (H : Heap) (locs : List Loc), zH D k a s (zUp g 0 (upd v 150 x)) H locs → W p l e R s m args below meth c H locs cells slots Q (F0 m (pc + 3) ls (rest))) : W p l e R s m args below meth c H locs cells slots Q (F0 m pc ls (.int x :: .ref (a 0 0) :: rest)) :=
  pf_X3_turnedBad X hH (by omega) hl hdg (fun H1 locs1 h => kk H1 locs1 (by rw [zUp_s, zUp_u] at h; exact h))
theorem g2_X3_turnedBad (X : zC p m c cc nL s args own D k a) {i j : Nat} (hi : i < 6) (hj : j < 6) (hij : j ≠ i) (hH : zH D k a s (zUp g i v) H locs) {idx : Nat} (hl : .fieldLink own idx "KeptPlans$State" "turnedBad" "I" ∈ GW) (hdg : decode cc pc = .ok (.getfield idx, 3))
    (kk : W p l e R s m args below meth c H locs cells slots Q (F0 m (pc + 3) ls (.int (g j 150) :: rest))) : W p l e R s m args below meth c H locs cells slots Q (F0 m pc ls (.ref (a j 0) :: rest)) :=
  gf_X3_turnedBad X hH hj hl hdg (by rw [zUp_n _ _ hij]; exact kk)
theorem p2_X3_turnedBad (X : zC p m c cc nL s args own D k a) {i : Nat} (hi : i < 6) (hH : zH D k a s (zUp g i v) H locs) {idx : Nat} {x : Int32} (hl : .fieldLink own idx "KeptPlans$State" "turnedBad" "I" ∈ GW) (hdg : decode cc pc = .ok (.putfield idx, 3))
    (kk : ∀ (H : Heap) (locs : List Loc), zH D k a s (zUp g i (upd v 150 x)) H locs → W p l e R s m args below meth c H locs cells slots Q (F0 m (pc + 3) ls (rest))) : W p l e R s m args below meth c H locs cells slots Q (F0 m pc ls (.int x :: .ref (a i 0) :: rest)) :=
  pf_X3_turnedBad X hH hi hl hdg (fun H1 locs1 h => kk H1 locs1 (by rw [zUp_s, zUp_u] at h; exact h))
theorem gn_X3_crowdedOut (X : zC p m c cc nL s args own D k a) (hH : zH D k a s (zUp g 0 v) H locs)  {idx : Nat} (hl : .fieldLink own idx "KeptPlans$State" "crowdedOut" "I" ∈ GW) (hdg : decode cc pc = .ok (.getfield idx, 3))
    (kk : W p l e R s m args below meth c H locs cells slots Q (F0 m (pc + 3) ls (.int (v 151) :: rest))) : W p l e R s m args below meth c H locs cells slots Q (F0 m pc ls (.ref (a 0 0) :: rest)) :=
  gf_X3_crowdedOut X hH (by omega) hl hdg (by rw [zUp_s]; exact kk)
theorem pn_X3_crowdedOut (X : zC p m c cc nL s args own D k a) (hH : zH D k a s (zUp g 0 v) H locs)  {idx : Nat} {x : Int32} (hl : .fieldLink own idx "KeptPlans$State" "crowdedOut" "I" ∈ GW) (hdg : decode cc pc = .ok (.putfield idx, 3))
    (kk : ∀ (H : Heap) (locs : List Loc), zH D k a s (zUp g 0 (upd v 151 x)) H locs → W p l e R s m args below meth c H locs cells slots Q (F0 m (pc + 3) ls (rest))) : W p l e R s m args below meth c H locs cells slots Q (F0 m pc ls (.int x :: .ref (a 0 0) :: rest)) :=
  pf_X3_crowdedOut X hH (by omega) hl hdg (fun H1 locs1 h => kk H1 locs1 (by rw [zUp_s, zUp_u] at h; exact h))
theorem g2_X3_crowdedOut (X : zC p m c cc nL s args own D k a) {i j : Nat} (hi : i < 6) (hj : j < 6) (hij : j ≠ i) (hH : zH D k a s (zUp g i v) H locs) {idx : Nat} (hl : .fieldLink own idx "KeptPlans$State" "crowdedOut" "I" ∈ GW) (hdg : decode cc pc = .ok (.getfield idx, 3))
    (kk : W p l e R s m args below meth c H locs cells slots Q (F0 m (pc + 3) ls (.int (g j 151) :: rest))) : W p l e R s m args below meth c H locs cells slots Q (F0 m pc ls (.ref (a j 0) :: rest)) :=
  gf_X3_crowdedOut X hH hj hl hdg (by rw [zUp_n _ _ hij]; exact kk)
theorem p2_X3_crowdedOut (X : zC p m c cc nL s args own D k a) {i : Nat} (hi : i < 6) (hH : zH D k a s (zUp g i v) H locs) {idx : Nat} {x : Int32} (hl : .fieldLink own idx "KeptPlans$State" "crowdedOut" "I" ∈ GW) (hdg : decode cc pc = .ok (.putfield idx, 3))
    (kk : ∀ (H : Heap) (locs : List Loc), zH D k a s (zUp g i (upd v 151 x)) H locs → W p l e R s m args below meth c H locs cells slots Q (F0 m (pc + 3) ls (rest))) : W p l e R s m args below meth c H locs cells slots Q (F0 m pc ls (.int x :: .ref (a i 0) :: rest)) :=
  pf_X3_crowdedOut X hH hi hl hdg (fun H1 locs1 h => kk H1 locs1 (by rw [zUp_s, zUp_u] at h; exact h))
theorem gt_X2_length (X : zC p m c cc nL s args own D k a) (hH : zH D k a s (zT g u w tt n) H locs) {idx : Nat} (hl : .fieldLink own idx "KeptPlans$QuestionText" "length" "I" ∈ GW) (hdg : decode cc pc = .ok (.getfield idx, 3))
    (kk : W p l e R s m args below meth c H locs cells slots Q (F0 m (pc + 3) ls (.int (u 2) :: rest))) : W p l e R s m args below meth c H locs cells slots Q (F0 m pc ls (.ref (a 6 3) :: rest)) :=
  gf_X2_length X hH hl hdg (by rw [zT_6]; exact kk)
theorem pt_X2_length (X : zC p m c cc nL s args own D k a) (hH : zH D k a s (zT g u w tt n) H locs) {idx : Nat} {x : Int32} (hl : .fieldLink own idx "KeptPlans$QuestionText" "length" "I" ∈ GW) (hdg : decode cc pc = .ok (.putfield idx, 3))
    (kk : ∀ (H : Heap) (locs : List Loc), zH D k a s (zT g (upd u 2 x) w tt n) H locs → W p l e R s m args below meth c H locs cells slots Q (F0 m (pc + 3) ls (rest))) : W p l e R s m args below meth c H locs cells slots Q (F0 m pc ls (.int x :: .ref (a 6 3) :: rest)) :=
  pf_X2_length X hH hl hdg (fun H1 locs1 h => kk H1 locs1 (by rw [zT_6, zT_p6] at h; exact h))
theorem gt_X2_lines (X : zC p m c cc nL s args own D k a) (hH : zH D k a s (zT g u w tt n) H locs) {idx : Nat} (hl : .fieldLink own idx "KeptPlans$QuestionText" "lines" "I" ∈ GW) (hdg : decode cc pc = .ok (.getfield idx, 3))
    (kk : W p l e R s m args below meth c H locs cells slots Q (F0 m (pc + 3) ls (.int (u 3) :: rest))) : W p l e R s m args below meth c H locs cells slots Q (F0 m pc ls (.ref (a 6 3) :: rest)) :=
  gf_X2_lines X hH hl hdg (by rw [zT_6]; exact kk)
theorem pt_X2_lines (X : zC p m c cc nL s args own D k a) (hH : zH D k a s (zT g u w tt n) H locs) {idx : Nat} {x : Int32} (hl : .fieldLink own idx "KeptPlans$QuestionText" "lines" "I" ∈ GW) (hdg : decode cc pc = .ok (.putfield idx, 3))
    (kk : ∀ (H : Heap) (locs : List Loc), zH D k a s (zT g (upd u 3 x) w tt n) H locs → W p l e R s m args below meth c H locs cells slots Q (F0 m (pc + 3) ls (rest))) : W p l e R s m args below meth c H locs cells slots Q (F0 m pc ls (.int x :: .ref (a 6 3) :: rest)) :=
  pf_X2_lines X hH hl hdg (fun H1 locs1 h => kk H1 locs1 (by rw [zT_6, zT_p6] at h; exact h))
theorem gt_X2_at (X : zC p m c cc nL s args own D k a) (hH : zH D k a s (zT g u w tt n) H locs) {idx : Nat} (hl : .fieldLink own idx "KeptPlans$QuestionText" "at" "I" ∈ GW) (hdg : decode cc pc = .ok (.getfield idx, 3))
    (kk : W p l e R s m args below meth c H locs cells slots Q (F0 m (pc + 3) ls (.int (u 4) :: rest))) : W p l e R s m args below meth c H locs cells slots Q (F0 m pc ls (.ref (a 6 3) :: rest)) :=
  gf_X2_at X hH hl hdg (by rw [zT_6]; exact kk)
theorem pt_X2_at (X : zC p m c cc nL s args own D k a) (hH : zH D k a s (zT g u w tt n) H locs) {idx : Nat} {x : Int32} (hl : .fieldLink own idx "KeptPlans$QuestionText" "at" "I" ∈ GW) (hdg : decode cc pc = .ok (.putfield idx, 3))
    (kk : ∀ (H : Heap) (locs : List Loc), zH D k a s (zT g (upd u 4 x) w tt n) H locs → W p l e R s m args below meth c H locs cells slots Q (F0 m (pc + 3) ls (rest))) : W p l e R s m args below meth c H locs cells slots Q (F0 m pc ls (.int x :: .ref (a 6 3) :: rest)) :=
  pf_X2_at X hH hl hdg (fun H1 locs1 h => kk H1 locs1 (by rw [zT_6, zT_p6] at h; exact h))
theorem gm_X6_states (X : zC p m c cc nL s args own D k a) {B : Nat} (hH : zH D k a s (zM g B v u) H locs) {idx : Nat} (hl : .fieldLink own idx "KeptPlansModel" "states" "I" ∈ GW) (hdg : decode cc pc = .ok (.getfield idx, 3))
    (kk : W p l e R s m args below meth c H locs cells slots Q (F0 m (pc + 3) ls (.int (u 0) :: rest))) : W p l e R s m args below meth c H locs cells slots Q (F0 m pc ls (.ref (a 6 8) :: rest)) :=
  gf_X6_states X hH hl hdg (by rw [zM_18]; exact kk)
theorem pm_X6_states (X : zC p m c cc nL s args own D k a) {B : Nat} (hH : zH D k a s (zM g B v u) H locs) {idx : Nat} {x : Int32} (hl : .fieldLink own idx "KeptPlansModel" "states" "I" ∈ GW) (hdg : decode cc pc = .ok (.putfield idx, 3))
    (kk : ∀ (H : Heap) (locs : List Loc), zH D k a s (zM g B v (upd u 0 x)) H locs → W p l e R s m args below meth c H locs cells slots Q (F0 m (pc + 3) ls (rest))) : W p l e R s m args below meth c H locs cells slots Q (F0 m pc ls (.int x :: .ref (a 6 8) :: rest)) :=
  pf_X6_states X hH hl hdg (fun H1 locs1 h => kk H1 locs1 (by rw [zM_18, zM_p18] at h; exact h))
theorem gm_X6_isKept (X : zC p m c cc nL s args own D k a) {B : Nat} (hH : zH D k a s (zM g B v u) H locs) {idx : Nat} (hl : .fieldLink own idx "KeptPlansModel" "isKept" "Z" ∈ GW) (hdg : decode cc pc = .ok (.getfield idx, 3))
    (kk : W p l e R s m args below meth c H locs cells slots Q (F0 m (pc + 3) ls (.int (u 1) :: rest))) : W p l e R s m args below meth c H locs cells slots Q (F0 m pc ls (.ref (a 6 8) :: rest)) :=
  gf_X6_isKept X hH hl hdg (by rw [zM_18]; exact kk)
theorem pm_X6_isKept (X : zC p m c cc nL s args own D k a) {B : Nat} (hH : zH D k a s (zM g B v u) H locs) {idx : Nat} {x : Int32} (hx : x = 0 ∨ x = 1) (hl : .fieldLink own idx "KeptPlansModel" "isKept" "Z" ∈ GW) (hdg : decode cc pc = .ok (.putfield idx, 3))
    (kk : ∀ (H : Heap) (locs : List Loc), zH D k a s (zM g B v (upd u 1 x)) H locs → W p l e R s m args below meth c H locs cells slots Q (F0 m (pc + 3) ls (rest))) : W p l e R s m args below meth c H locs cells slots Q (F0 m pc ls (.int x :: .ref (a 6 8) :: rest)) :=
  pf_X6_isKept X hH hx hl hdg (fun H1 locs1 h => kk H1 locs1 (by rw [zM_18, zM_p18] at h; exact h))
theorem gm_X6_typed (X : zC p m c cc nL s args own D k a) {B : Nat} (hH : zH D k a s (zM g B v u) H locs) {idx : Nat} (hl : .fieldLink own idx "KeptPlansModel" "typed" "I" ∈ GW) (hdg : decode cc pc = .ok (.getfield idx, 3))
    (kk : W p l e R s m args below meth c H locs cells slots Q (F0 m (pc + 3) ls (.int (u 2) :: rest))) : W p l e R s m args below meth c H locs cells slots Q (F0 m pc ls (.ref (a 6 8) :: rest)) :=
  gf_X6_typed X hH hl hdg (by rw [zM_18]; exact kk)
theorem pm_X6_typed (X : zC p m c cc nL s args own D k a) {B : Nat} (hH : zH D k a s (zM g B v u) H locs) {idx : Nat} {x : Int32} (hl : .fieldLink own idx "KeptPlansModel" "typed" "I" ∈ GW) (hdg : decode cc pc = .ok (.putfield idx, 3))
    (kk : ∀ (H : Heap) (locs : List Loc), zH D k a s (zM g B v (upd u 2 x)) H locs → W p l e R s m args below meth c H locs cells slots Q (F0 m (pc + 3) ls (rest))) : W p l e R s m args below meth c H locs cells slots Q (F0 m pc ls (.int x :: .ref (a 6 8) :: rest)) :=
  pf_X6_typed X hH hl hdg (fun H1 locs1 h => kk H1 locs1 (by rw [zM_18, zM_p18] at h; exact h))
theorem gm_X6_at (X : zC p m c cc nL s args own D k a) {B : Nat} (hH : zH D k a s (zM g B v u) H locs) {idx : Nat} (hl : .fieldLink own idx "KeptPlansModel" "at" "I" ∈ GW) (hdg : decode cc pc = .ok (.getfield idx, 3))
    (kk : W p l e R s m args below meth c H locs cells slots Q (F0 m (pc + 3) ls (.int (u 3) :: rest))) : W p l e R s m args below meth c H locs cells slots Q (F0 m pc ls (.ref (a 6 8) :: rest)) :=
  gf_X6_at X hH hl hdg (by rw [zM_18]; exact kk)
theorem pm_X6_at (X : zC p m c cc nL s args own D k a) {B : Nat} (hH : zH D k a s (zM g B v u) H locs) {idx : Nat} {x : Int32} (hl : .fieldLink own idx "KeptPlansModel" "at" "I" ∈ GW) (hdg : decode cc pc = .ok (.putfield idx, 3))
    (kk : ∀ (H : Heap) (locs : List Loc), zH D k a s (zM g B v (upd u 3 x)) H locs → W p l e R s m args below meth c H locs cells slots Q (F0 m (pc + 3) ls (rest))) : W p l e R s m args below meth c H locs cells slots Q (F0 m pc ls (.int x :: .ref (a 6 8) :: rest)) :=
  pf_X6_at X hH hl hdg (fun H1 locs1 h => kk H1 locs1 (by rw [zM_18, zM_p18] at h; exact h))
theorem gm_X6_order (X : zC p m c cc nL s args own D k a) {B : Nat} (hH : zH D k a s (zM g B v u) H locs) {idx : Nat} (hl : .fieldLink own idx "KeptPlansModel" "order" "I" ∈ GW) (hdg : decode cc pc = .ok (.getfield idx, 3))
    (kk : W p l e R s m args below meth c H locs cells slots Q (F0 m (pc + 3) ls (.int (u 4) :: rest))) : W p l e R s m args below meth c H locs cells slots Q (F0 m pc ls (.ref (a 6 8) :: rest)) :=
  gf_X6_order X hH hl hdg (by rw [zM_18]; exact kk)
theorem pm_X6_order (X : zC p m c cc nL s args own D k a) {B : Nat} (hH : zH D k a s (zM g B v u) H locs) {idx : Nat} {x : Int32} (hl : .fieldLink own idx "KeptPlansModel" "order" "I" ∈ GW) (hdg : decode cc pc = .ok (.putfield idx, 3))
    (kk : ∀ (H : Heap) (locs : List Loc), zH D k a s (zM g B v (upd u 4 x)) H locs → W p l e R s m args below meth c H locs cells slots Q (F0 m (pc + 3) ls (rest))) : W p l e R s m args below meth c H locs cells slots Q (F0 m pc ls (.int x :: .ref (a 6 8) :: rest)) :=
  pf_X6_order X hH hl hdg (fun H1 locs1 h => kk H1 locs1 (by rw [zM_18, zM_p18] at h; exact h))
theorem gm_X6_table (X : zC p m c cc nL s args own D k a) {B : Nat} (hH : zH D k a s (zM g B v u) H locs) {idx : Nat} (hl : .fieldLink own idx "KeptPlansModel" "table" "I" ∈ GW) (hdg : decode cc pc = .ok (.getfield idx, 3))
    (kk : W p l e R s m args below meth c H locs cells slots Q (F0 m (pc + 3) ls (.int (u 5) :: rest))) : W p l e R s m args below meth c H locs cells slots Q (F0 m pc ls (.ref (a 6 8) :: rest)) :=
  gf_X6_table X hH hl hdg (by rw [zM_18]; exact kk)
theorem pm_X6_table (X : zC p m c cc nL s args own D k a) {B : Nat} (hH : zH D k a s (zM g B v u) H locs) {idx : Nat} {x : Int32} (hl : .fieldLink own idx "KeptPlansModel" "table" "I" ∈ GW) (hdg : decode cc pc = .ok (.putfield idx, 3))
    (kk : ∀ (H : Heap) (locs : List Loc), zH D k a s (zM g B v (upd u 5 x)) H locs → W p l e R s m args below meth c H locs cells slots Q (F0 m (pc + 3) ls (rest))) : W p l e R s m args below meth c H locs cells slots Q (F0 m pc ls (.int x :: .ref (a 6 8) :: rest)) :=
  pf_X6_table X hH hl hdg (fun H1 locs1 h => kk H1 locs1 (by rw [zM_18, zM_p18] at h; exact h))
theorem gm_X6_number (X : zC p m c cc nL s args own D k a) {B : Nat} (hH : zH D k a s (zM g B v u) H locs) {idx : Nat} (hl : .fieldLink own idx "KeptPlansModel" "number" "I" ∈ GW) (hdg : decode cc pc = .ok (.getfield idx, 3))
    (kk : W p l e R s m args below meth c H locs cells slots Q (F0 m (pc + 3) ls (.int (u 6) :: rest))) : W p l e R s m args below meth c H locs cells slots Q (F0 m pc ls (.ref (a 6 8) :: rest)) :=
  gf_X6_number X hH hl hdg (by rw [zM_18]; exact kk)
theorem pm_X6_number (X : zC p m c cc nL s args own D k a) {B : Nat} (hH : zH D k a s (zM g B v u) H locs) {idx : Nat} {x : Int32} (hl : .fieldLink own idx "KeptPlansModel" "number" "I" ∈ GW) (hdg : decode cc pc = .ok (.putfield idx, 3))
    (kk : ∀ (H : Heap) (locs : List Loc), zH D k a s (zM g B v (upd u 6 x)) H locs → W p l e R s m args below meth c H locs cells slots Q (F0 m (pc + 3) ls (rest))) : W p l e R s m args below meth c H locs cells slots Q (F0 m pc ls (.int x :: .ref (a 6 8) :: rest)) :=
  pf_X6_number X hH hl hdg (fun H1 locs1 h => kk H1 locs1 (by rw [zM_18, zM_p18] at h; exact h))
theorem gm_X6_way (X : zC p m c cc nL s args own D k a) {B : Nat} (hH : zH D k a s (zM g B v u) H locs) {idx : Nat} (hl : .fieldLink own idx "KeptPlansModel" "way" "I" ∈ GW) (hdg : decode cc pc = .ok (.getfield idx, 3))
    (kk : W p l e R s m args below meth c H locs cells slots Q (F0 m (pc + 3) ls (.int (u 7) :: rest))) : W p l e R s m args below meth c H locs cells slots Q (F0 m pc ls (.ref (a 6 8) :: rest)) :=
  gf_X6_way X hH hl hdg (by rw [zM_18]; exact kk)
theorem pm_X6_way (X : zC p m c cc nL s args own D k a) {B : Nat} (hH : zH D k a s (zM g B v u) H locs) {idx : Nat} {x : Int32} (hl : .fieldLink own idx "KeptPlansModel" "way" "I" ∈ GW) (hdg : decode cc pc = .ok (.putfield idx, 3))
    (kk : ∀ (H : Heap) (locs : List Loc), zH D k a s (zM g B v (upd u 7 x)) H locs → W p l e R s m args below meth c H locs cells slots Q (F0 m (pc + 3) ls (rest))) : W p l e R s m args below meth c H locs cells slots Q (F0 m pc ls (.int x :: .ref (a 6 8) :: rest)) :=
  pf_X6_way X hH hl hdg (fun H1 locs1 h => kk H1 locs1 (by rw [zM_18, zM_p18] at h; exact h))
theorem gm_X6_isBad (X : zC p m c cc nL s args own D k a) {B : Nat} (hH : zH D k a s (zM g B v u) H locs) {idx : Nat} (hl : .fieldLink own idx "KeptPlansModel" "isBad" "Z" ∈ GW) (hdg : decode cc pc = .ok (.getfield idx, 3))
    (kk : W p l e R s m args below meth c H locs cells slots Q (F0 m (pc + 3) ls (.int (u 8) :: rest))) : W p l e R s m args below meth c H locs cells slots Q (F0 m pc ls (.ref (a 6 8) :: rest)) :=
  gf_X6_isBad X hH hl hdg (by rw [zM_18]; exact kk)
theorem pm_X6_isBad (X : zC p m c cc nL s args own D k a) {B : Nat} (hH : zH D k a s (zM g B v u) H locs) {idx : Nat} {x : Int32} (hx : x = 0 ∨ x = 1) (hl : .fieldLink own idx "KeptPlansModel" "isBad" "Z" ∈ GW) (hdg : decode cc pc = .ok (.putfield idx, 3))
    (kk : ∀ (H : Heap) (locs : List Loc), zH D k a s (zM g B v (upd u 8 x)) H locs → W p l e R s m args below meth c H locs cells slots Q (F0 m (pc + 3) ls (rest))) : W p l e R s m args below meth c H locs cells slots Q (F0 m pc ls (.int x :: .ref (a 6 8) :: rest)) :=
  pf_X6_isBad X hH hx hl hdg (fun H1 locs1 h => kk H1 locs1 (by rw [zM_18, zM_p18] at h; exact h))
theorem gm_X6_gone (X : zC p m c cc nL s args own D k a) {B : Nat} (hH : zH D k a s (zM g B v u) H locs) {idx : Nat} (hl : .fieldLink own idx "KeptPlansModel" "gone" "I" ∈ GW) (hdg : decode cc pc = .ok (.getfield idx, 3))
    (kk : W p l e R s m args below meth c H locs cells slots Q (F0 m (pc + 3) ls (.int (u 9) :: rest))) : W p l e R s m args below meth c H locs cells slots Q (F0 m pc ls (.ref (a 6 8) :: rest)) :=
  gf_X6_gone X hH hl hdg (by rw [zM_18]; exact kk)
theorem pm_X6_gone (X : zC p m c cc nL s args own D k a) {B : Nat} (hH : zH D k a s (zM g B v u) H locs) {idx : Nat} {x : Int32} (hl : .fieldLink own idx "KeptPlansModel" "gone" "I" ∈ GW) (hdg : decode cc pc = .ok (.putfield idx, 3))
    (kk : ∀ (H : Heap) (locs : List Loc), zH D k a s (zM g B v (upd u 9 x)) H locs → W p l e R s m args below meth c H locs cells slots Q (F0 m (pc + 3) ls (rest))) : W p l e R s m args below meth c H locs cells slots Q (F0 m pc ls (.int x :: .ref (a 6 8) :: rest)) :=
  pf_X6_gone X hH hl hdg (fun H1 locs1 h => kk H1 locs1 (by rw [zM_18, zM_p18] at h; exact h))
theorem an_sets (X : zC p m c cc nL s args own D k a) (hH : zH D k a s (zUp g 0 v) H locs) (j : Nat) (hj : j < 5) (hdg : decode cc pc = .ok (.iaload, 1)) (kk : W p l e R s m args below meth c H locs cells slots Q (F0 m (pc + 1) ls (.int (v (8 + j)) :: rest))) : W p l e R s m args below meth c H locs cells slots Q (F0 m pc ls (.int (nI j) :: .ref (a 0 3) :: rest)) :=
  ar_sets X hH (by omega) j hj hdg (by rw [zUp_s]; exact kk)
theorem am_s (X : zC p m c cc nL s args own D k a) {B z : Nat} (hB : B < 7) (hH : zH D k a s (zM g B v u) H locs) (j : Nat) (hj : j < 160) (hz : z = 160 * B + j) (hdg : decode cc pc = .ok (.iaload, 1)) (kk : W p l e R s m args below meth c H locs cells slots Q (F0 m (pc + 1) ls (.int (v j) :: rest))) : W p l e R s m args below meth c H locs cells slots Q (F0 m pc ls (.int (nI z) :: .ref (a 6 9) :: rest)) :=
  ar_s X hH B j hB hj hz hdg (by rw [zM_B g hB]; exact kk)
theorem at_words (X : zC p m c cc nL s args own D k a) (hH : zH D k a s (zT g u w tt n) H locs) (j : Nat) (hj : j < 11) (hdg : decode cc pc = .ok (.iaload, 1)) (kk : W p l e R s m args below meth c H locs cells slots Q (F0 m (pc + 1) ls (.int (w j) :: rest))) : W p l e R s m args below meth c H locs cells slots Q (F0 m pc ls (.int (nI j) :: .ref (a 6 5) :: rest)) :=
  ar_words X hH j hj hdg (by rw [zT_8]; exact kk)
theorem at_tables (X : zC p m c cc nL s args own D k a) (hH : zH D k a s (zT g u w tt n) H locs) (j : Nat) (hj : j < 11) (hdg : decode cc pc = .ok (.iaload, 1)) (kk : W p l e R s m args below meth c H locs cells slots Q (F0 m (pc + 1) ls (.int (tt j) :: rest))) : W p l e R s m args below meth c H locs cells slots Q (F0 m pc ls (.int (nI j) :: .ref (a 6 6) :: rest)) :=
  ar_tables X hH j hj hdg (by rw [zT_9]; exact kk)
theorem at_numbers (X : zC p m c cc nL s args own D k a) (hH : zH D k a s (zT g u w tt n) H locs) (j : Nat) (hj : j < 11) (hdg : decode cc pc = .ok (.iaload, 1)) (kk : W p l e R s m args below meth c H locs cells slots Q (F0 m (pc + 1) ls (.int (n j) :: rest))) : W p l e R s m args below meth c H locs cells slots Q (F0 m pc ls (.int (nI j) :: .ref (a 6 7) :: rest)) :=
  ar_numbers X hH j hj hdg (by rw [zT_17]; exact kk)
theorem at_signs (X : zC p m c cc nL s args own D k a) (hH : zH D k a s (zT g u w tt n) H locs) (j : Nat) (hj : j < 80) (hdg : decode cc pc = .ok (.caload, 1)) (kk : W p l e R s m args below meth c H locs cells slots Q (F0 m (pc + 1) ls (.int (g 7 j) :: rest))) : W p l e R s m args below meth c H locs cells slots Q (F0 m pc ls (.int (nI j) :: .ref (a 6 4) :: rest)) :=
  ar_signs X hH j hj hdg (by rw [zT_7]; exact kk)
theorem a2_sets (X : zC p m c cc nL s args own D k a) {i j : Nat} (hi : i < 6) (hj : j < 6) (hij : j ≠ i) (hH : zH D k a s (zUp g i v) H locs) (q : Nat) (hq : q < 5) (hdg : decode cc pc = .ok (.iaload, 1)) (kk : W p l e R s m args below meth c H locs cells slots Q (F0 m (pc + 1) ls (.int (g j (8 + q)) :: rest))) : W p l e R s m args below meth c H locs cells slots Q (F0 m pc ls (.int (nI q) :: .ref (a j 3) :: rest)) :=
  ar_sets X hH hj q hq hdg (by rw [zUp_n _ _ hij]; exact kk)
theorem s2_sets (X : zC p m c cc nL s args own D k a) {i : Nat} (hi : i < 6) (hH : zH D k a s (zUp g i v) H locs) (q : Nat) (hq : q < 5) {x : Int32} (hdg : decode cc pc = .ok (.iastore, 1)) (kk : ∀ (H : Heap) (locs : List Loc), zH D k a s (zUp g i (upd v (8 + q) x)) H locs → W p l e R s m args below meth c H locs cells slots Q (F0 m (pc + 1) ls (rest))) : W p l e R s m args below meth c H locs cells slots Q (F0 m pc ls (.int x :: .int (nI q) :: .ref (a i 3) :: rest)) :=
  as_sets X hH hi q hq hdg (fun H1 locs1 h => kk H1 locs1 (by rw [zUp_s, zUp_u] at h; exact h))
theorem sn_sets (X : zC p m c cc nL s args own D k a) (hH : zH D k a s (zUp g 0 v) H locs) (j : Nat) (hj : j < 5) {x : Int32} (hdg : decode cc pc = .ok (.iastore, 1)) (kk : ∀ (H : Heap) (locs : List Loc), zH D k a s (zUp g 0 (upd v (8 + j) x)) H locs → W p l e R s m args below meth c H locs cells slots Q (F0 m (pc + 1) ls (rest))) : W p l e R s m args below meth c H locs cells slots Q (F0 m pc ls (.int x :: .int (nI j) :: .ref (a 0 3) :: rest)) :=
  as_sets X hH (by omega) j hj hdg (fun H1 locs1 h => kk H1 locs1 (by rw [zUp_s, zUp_u] at h; exact h))
theorem sm_s (X : zC p m c cc nL s args own D k a) {B z : Nat} (hB : B < 7) (hH : zH D k a s (zM g B v u) H locs) (j : Nat) (hj : j < 160) (hz : z = 160 * B + j) {x : Int32} (hdg : decode cc pc = .ok (.iastore, 1)) (kk : ∀ (H : Heap) (locs : List Loc), zH D k a s (zM g B (upd v j x) u) H locs → W p l e R s m args below meth c H locs cells slots Q (F0 m (pc + 1) ls (rest))) : W p l e R s m args below meth c H locs cells slots Q (F0 m pc ls (.int x :: .int (nI z) :: .ref (a 6 9) :: rest)) :=
  as_s X hH B j hB hj hz hdg (fun H1 locs1 h => kk H1 locs1 (by rw [zM_B g hB, zM_pB g hB] at h; exact h))
theorem st_words (X : zC p m c cc nL s args own D k a) (hH : zH D k a s (zT g u w tt n) H locs) (j : Nat) (hj : j < 11) {x : Int32} (hdg : decode cc pc = .ok (.iastore, 1)) (kk : ∀ (H : Heap) (locs : List Loc), zH D k a s (zT g u (upd w j x) tt n) H locs → W p l e R s m args below meth c H locs cells slots Q (F0 m (pc + 1) ls (rest))) : W p l e R s m args below meth c H locs cells slots Q (F0 m pc ls (.int x :: .int (nI j) :: .ref (a 6 5) :: rest)) :=
  as_words X hH j hj hdg (fun H1 locs1 h => kk H1 locs1 (by rw [zT_8, zT_p8] at h; exact h))
theorem st_tables (X : zC p m c cc nL s args own D k a) (hH : zH D k a s (zT g u w tt n) H locs) (j : Nat) (hj : j < 11) {x : Int32} (hdg : decode cc pc = .ok (.iastore, 1)) (kk : ∀ (H : Heap) (locs : List Loc), zH D k a s (zT g u w (upd tt j x) n) H locs → W p l e R s m args below meth c H locs cells slots Q (F0 m (pc + 1) ls (rest))) : W p l e R s m args below meth c H locs cells slots Q (F0 m pc ls (.int x :: .int (nI j) :: .ref (a 6 6) :: rest)) :=
  as_tables X hH j hj hdg (fun H1 locs1 h => kk H1 locs1 (by rw [zT_9, zT_p9] at h; exact h))
theorem st_numbers (X : zC p m c cc nL s args own D k a) (hH : zH D k a s (zT g u w tt n) H locs) (j : Nat) (hj : j < 11) {x : Int32} (hdg : decode cc pc = .ok (.iastore, 1)) (kk : ∀ (H : Heap) (locs : List Loc), zH D k a s (zT g u w tt (upd n j x)) H locs → W p l e R s m args below meth c H locs cells slots Q (F0 m (pc + 1) ls (rest))) : W p l e R s m args below meth c H locs cells slots Q (F0 m pc ls (.int x :: .int (nI j) :: .ref (a 6 7) :: rest)) :=
  as_numbers X hH j hj hdg (fun H1 locs1 h => kk H1 locs1 (by rw [zT_17, zT_p17] at h; exact h))
end ZN
end
section
/-! what each method answers and leaves, of the state's row v: slots 0.. rows, 4.. keys, 8.. settings, 13 + 11 s + f the plan of shape s, 145.. accounts -/
abbrev V := Nat → Int32
def zBl (n : Nat) : Nat := if n = 0 then 0 else n.log2 + 1
def fBits (x : Int32) : Int32 := if 0 < x then nI (zBl x.toNatClampNeg) else 0
def fQuo (x y : Int32) : Int32 := if y < 1 then 0 else x / y
def fMet (v : V) (s : Nat) (n : Int32) : Int32 := if s % 3 = 1 then (if v (s / 3) < fQuo (v (s / 3) * n + v (4 + s / 3) - 1) (v (4 + s / 3)) then v (s / 3) else fQuo (v (s / 3) * n + v (4 + s / 3) - 1) (v (4 + s / 3))) else n
def fRaw (v : V) (s : Nat) (w n : Int32) : Int32 :=
  if w = 0 then (if s % 3 = 2 then v (s / 3) + n * fBits n else v (s / 3))
  else if w = 1 then fBits (v (s / 3)) + fMet v s n * (if s % 3 = 2 then 1 else 3)
  else if s % 3 = 2 then v (s / 3) + n * fBits (v (s / 3)) else 2 * v (s / 3)
def fCost (v : V) (s : Nat) (w n : Int32) : Int32 := if 1000000 < fRaw v s w n then 1000000 else fRaw v s w n
def fB1 (v : V) (s : Nat) (n : Int32) : Int32 := if fCost v s 1 n < fCost v s 0 n then 1 else 0
def fBest (v : V) (s : Nat) (n : Int32) : Int32 := if fCost v s 2 n < fCost v s (fB1 v s n) n then 2 else fB1 v s n
def fAbs (x : Int32) : Int32 := if 0 ≤ x then x else 0 - x
def fChanged (v : V) (s : Nat) : Bool := decide (v (13 + 11 * s + 10) / 2 < fAbs (v (s / 3) - v (13 + 11 * s + 10)))
def fOld (v : V) (s : Nat) : Bool := decide (v 10 < v 145 - v (13 + 11 * s + 6))
def fDear (v : V) (s : Nat) (x : Int32) : Bool := decide (v 12 * v (13 + 11 * s + 5) < x)
def fWhy (v : V) (s : Nat) (n : Int32) : Int32 := if v (13 + 11 * s + 0) = 0 then 1 else if n < v (13 + 11 * s + 2) then 2 else if v (13 + 11 * s + 3) < n then 3 else if fChanged v s = true then 4 else if fOld v s = true then 5 else 0
/-- how many of the shapes below n are kept; pinned; stale -/
def fK (v : V) : Nat → Int32
  | 0 => 0
  | n + 1 => if v (13 + 11 * n + 0) = 0 then fK v n else fK v n + 1
def fP (v : V) : Nat → Int32
  | 0 => 0
  | n + 1 => if v (13 + 11 * n + 0) = 0 then fP v n else if v (13 + 11 * n + 8) = 0 then fP v n else fP v n + 1
def fS (v : V) : Nat → Int32
  | 0 => 0
  | n + 1 => if v (13 + 11 * n + 0) = 0 then fS v n else if fChanged v n = true ∨ fOld v n = true then fS v n + 1 else fS v n
def fKo (v : V) (t : Nat) : Nat → Int32
  | 0 => 0
  | n + 1 => if v (13 + 11 * (3 * t + n) + 0) = 0 then fKo v t n else fKo v t n + 1
/-- the oldest plan below n that isn't pinned: its shape (or -4), when it was used -/
def fO (v : V) : Nat → Int32 × Int32
  | 0 => (-4, 0)
  | n + 1 => if v (13 + 11 * n + 0) = 0 then fO v n else if v (13 + 11 * n + 8) = 0 then (if (fO v n).1 = -4 ∨ v (13 + 11 * n + 7) < (fO v n).2 then (nI n, v (13 + 11 * n + 7)) else fO v n) else fO v n
def fOldest (v : V) : Int32 := (fO v 12).1
def fKill (v : V) (s : Nat) : V := upd (upd v (13 + 11 * s + 0) 0) 151 (v 151 + 1)
def fCrowd : Nat → V → V
  | 0, v => v
  | n + 1, v => if fOldest v < 0 then v else fCrowd n (fKill v (fOldest v).toNatClampNeg)
def fDown (v : V) (most : Int32) : V := fCrowd (fK v 12 - most).toNatClampNeg v
def fLacks (v : V) (s : Nat) : Bool := decide (v (13 + 11 * s + 0) = 0 ∧ ¬ fK v 12 < v 11)
def fCould (v : V) (s : Nat) : Bool := decide (¬ v (13 + 11 * s + 0) = 0 ∨ fP v 12 < v 11)
def fRoom (v : V) (s : Nat) : V := if fLacks v s = true then fDown v (v 11 - 1) else v
def fFirst (v : V) (s : Nat) : Int32 := if fLacks v s = true then fOldest v else -4
/-- a plan is laid: in the order of the class's writes -/
def fPlace (v : V) (s : Nat) (w n least most : Int32) : V :=
  upd (upd (upd (upd (upd (upd (upd (upd (upd (upd (upd v (13 + 11 * s + 0) 1) (13 + 11 * s + 8) 0) (13 + 11 * s + 1) w) (13 + 11 * s + 2) least) (13 + 11 * s + 3) most) (13 + 11 * s + 4) n) (13 + 11 * s + 5) (fCost v s w n)) (13 + 11 * s + 10) (v (s / 3))) (13 + 11 * s + 9) 0) (13 + 11 * s + 6) (v 145)) (13 + 11 * s + 7) (v 145)
/-- a hit: its cost, what it leaves (the questions are counted ahead) -/
def fHitV (v : V) (s : Nat) : V := upd (upd (upd v 146 (v 146 + 1)) (13 + 11 * s + 9) (v (13 + 11 * s + 9) + 1)) (13 + 11 * s + 7) (v 145)
def fHit (v : V) (s : Nat) (n : Int32) : Int32 × V :=
  (fCost v s (v (13 + 11 * s + 1)) n, if fDear (fHitV v s) s (fCost v s (v (13 + 11 * s + 1)) n) = true then upd (upd (fHitV v s) (13 + 11 * s + 0) 0) 150 (v 150 + 1) else fHitV v s)
def fMissA (v : V) (s : Nat) : V := fRoom (upd (upd v 147 (v 147 + 1)) 149 (v 149 + v 8)) s
def fMissV (v : V) (s : Nat) (n : Int32) : V := if fCould (fMissA v s) s = true then fPlace (fMissA v s) s (fBest v s n) n (fQuo n (v 9)) (n * v 9) else fMissA v s
def fMiss (v : V) (s : Nat) (n : Int32) : Int32 × V := (fCost v s (fBest v s n) n + v 8, fMissV v s n)
/-- a question -/
def fAskQ (v : V) (s : Nat) (q : Int32 × V) : Int32 × V := (q.1, upd (upd (upd q.2 148 (q.2 148 + q.1)) (152 + s / 3) (q.2 (152 + s / 3) + 1)) (156 + s / 3) (q.2 (156 + s / 3) + q.1))
def fAsk (v : V) (s : Nat) (n : Int32) : Int32 × V := fAskQ v s (if fWhy v s n = 0 then fHit (upd v 145 (v 145 + 1)) s n else fMiss (upd v 145 (v 145 + 1)) s n)
def fResize (v : V) (q : Nat) (x many : Int32) : V := if x = 0 then upd v q many else upd v (4 + q) many
/-- one row copied over another, as the class does it -/
def cpT (v w : V) (t : Nat) : V := upd (upd (upd (upd v t (w t)) (4 + t) (w (4 + t))) (152 + t) (w (152 + t))) (156 + t) (w (156 + t))
def cpP (v w : V) (t : Nat) : V := upd (upd (upd (upd (upd (upd (upd (upd (upd (upd (upd v (13 + 11 * t + 0) (w (13 + 11 * t + 0))) (13 + 11 * t + 8) (w (13 + 11 * t + 8))) (13 + 11 * t + 1) (w (13 + 11 * t + 1))) (13 + 11 * t + 2) (w (13 + 11 * t + 2))) (13 + 11 * t + 3) (w (13 + 11 * t + 3))) (13 + 11 * t + 4) (w (13 + 11 * t + 4))) (13 + 11 * t + 5) (w (13 + 11 * t + 5))) (13 + 11 * t + 10) (w (13 + 11 * t + 10))) (13 + 11 * t + 9) (w (13 + 11 * t + 9))) (13 + 11 * t + 6) (w (13 + 11 * t + 6))) (13 + 11 * t + 7) (w (13 + 11 * t + 7))
def cpTs (v w : V) : Nat → V
  | 0 => v
  | n + 1 => cpT (cpTs v w n) w n
def cpPs (v w : V) : Nat → V
  | 0 => v
  | n + 1 => cpP (cpPs v w n) w n
def cpSs (v w : V) : Nat → V
  | 0 => v
  | n + 1 => upd (cpSs v w n) (8 + n) (w (8 + n))
def cpAll (v w : V) : V := upd (upd (upd (upd (upd (upd (upd (cpSs (cpPs (cpTs v w 4) w 12) w 5) 145 (w 145)) 146 (w 146)) 147 (w 147)) 148 (w 148)) 149 (w 149)) 150 (w 150)) 151 (w 151)
/-- the flags of a row are 0 or 1 -/
def zFl (w : V) : Prop := ∀ t, t < 12 → (w (13 + 11 * t + 0) = 0 ∨ w (13 + 11 * t + 0) = 1) ∧ (w (13 + 11 * t + 8) = 0 ∨ w (13 + 11 * t + 8) = 1)
/-- the class's history: the state now is written at the place x; the latest comes back -/
def zRecX (g : Mem) (x : Nat) : Mem := zUp (zUp g (2 + x) (g 0)) 6 (upd (upd (g 6) 0 (nI ((x + 1) % 4))) 1 (if 4 < g 6 1 + 1 then 4 else g 6 1 + 1))
def zRec (g : Mem) : Mem := zRecX g (g 6 0).toNatClampNeg
def zBackX (g : Mem) (x : Nat) : Mem := zUp (zUp g 6 (upd (upd (g 6) 0 (nI ((x + 3) % 4))) 1 (g 6 1 - 1))) 0 (g (2 + (x + 3) % 4))
def zBack (g : Mem) : Mem := zBackX g (g 6 0).toNatClampNeg
end
section
/-! plain facts of numbers -/
theorem zPos {x : Int32} (h : 0 < x) : ∃ N, N < 2 ^ 31 ∧ x = nI N :=
  nI_of (fun q => absurd (Int32.lt_iff_toInt_lt.mp h) (by have := Int32.lt_iff_toInt_lt.mp q; omega))
theorem zBl_lt (N i : Nat) : i < zBl N ↔ 0 < N / 2 ^ i := by
  unfold zBl
  by_cases h : N = 0
  · subst h
    simp
  · rw [if_neg h, Nat.lt_succ_iff, Nat.le_log2 h, Nat.div_pos_iff]
    exact ⟨fun q => ⟨Nat.two_pow_pos i, q⟩, fun q => q.2⟩
theorem zBl_ge {N i : Nat} (h : zBl N ≤ i) : N / 2 ^ i = 0 := by
  rcases Nat.eq_zero_or_pos (N / 2 ^ i) with q | q
  · exact q
  · exact absurd ((zBl_lt N i).mpr q) (by omega)
theorem zBl_31 {N : Nat} (h : N < 2 ^ 31) : zBl N ≤ 31 := by
  unfold zBl
  by_cases h0 : N = 0
  · rw [if_pos h0]; omega
  · rw [if_neg h0]
    have h1 : ¬ 31 ≤ N.log2 := fun q => by have := (Nat.le_log2 h0).mp q; omega
    omega
theorem z_shr0p {x : Int32} (h : (0 : Int32) < x >>> ((0 : Int32) &&& 31)) : 0 < x := by
  have e : x >>> ((0 : Int32) &&& 31) = x := by
    have h1 : ((0 : Int32) &&& 31) = 0 := by decide
    rw [h1]
    simp
  rw [e] at h
  exact h
theorem z10 : ((1 : Int32) = 0) = False := eq_false (by decide)
theorem z_cl0 {x : Int32} (h : ¬ 0 < x) : x.toNatClampNeg = 0 := by
  have h1 : ¬ (0 : Int32).toInt < x.toInt := fun q => h (Int32.lt_iff_toInt_lt.mpr q)
  have h2 : x.toInt ≤ 0 := by simpa using h1
  show x.toInt.toNat = 0
  omega
theorem fO_nat (v : V) : ∀ n, (fO v n).1 = -4 ∨ ∃ S, S < n ∧ (fO v n).1 = nI S ∧ (fO v n).2 = v (13 + 11 * S + 7) ∧ ¬ v (13 + 11 * S + 0) = 0 ∧ v (13 + 11 * S + 8) = 0
  | 0 => Or.inl rfl
  | n + 1 => by
    have ih : (fO v n).1 = -4 ∨ ∃ S, S < n + 1 ∧ (fO v n).1 = nI S ∧ (fO v n).2 = v (13 + 11 * S + 7) ∧ ¬ v (13 + 11 * S + 0) = 0 ∧ v (13 + 11 * S + 8) = 0 := by
      rcases fO_nat v n with h | ⟨S, h1, h2⟩
      · exact Or.inl h
      · exact Or.inr ⟨S, by omega, h2⟩
    unfold fO
    by_cases h1 : v (13 + 11 * n + 0) = 0
    · rw [if_pos h1]; exact ih
    · rw [if_neg h1]
      by_cases h2 : v (13 + 11 * n + 8) = 0
      · rw [if_pos h2]
        by_cases h3 : (fO v n).1 = -4 ∨ v (13 + 11 * n + 7) < (fO v n).2
        · rw [if_pos h3]; exact Or.inr ⟨n, by omega, rfl, rfl, h1, h2⟩
        · rw [if_neg h3]; exact ih
      · rw [if_neg h2]; exact ih
theorem fOldest_nat {v : V} (h : ¬ fOldest v < 0) : ∃ S, S < 12 ∧ fOldest v = nI S ∧ ¬ v (13 + 11 * S + 0) = 0 ∧ v (13 + 11 * S + 8) = 0 := by
  rcases fO_nat v 12 with q | ⟨S, h1, h2, -, h3, h4⟩
  · exact absurd (by unfold fOldest; rw [q]; decide) h
  · exact ⟨S, h1, h2, h3, h4⟩
theorem fKill_o {v : V} {s j : Nat} (h1 : j ≠ 151) (h2 : j ≠ 13 + 11 * s + 0) : fKill v s j = v j := by
  unfold fKill
  rw [zu_n _ _ h1, zu_n _ _ h2]
theorem fCrowd_o {j : Nat} (h : j < 13 ∨ (145 ≤ j ∧ j ≠ 151)) : ∀ (n : Nat) (v : V), fCrowd n v j = v j
  | 0, _ => rfl
  | n + 1, v => by
    unfold fCrowd
    by_cases h1 : fOldest v < 0
    · rw [if_pos h1]
    · rw [if_neg h1, fCrowd_o h n]
      obtain ⟨S, hS, e, -, -⟩ := fOldest_nat h1
      rw [e, nI_clamp (by omega)]
      exact fKill_o (by omega) (by omega)
theorem fRoom_o {v : V} {s j : Nat} (h : j < 13 ∨ (145 ≤ j ∧ j ≠ 151)) : fRoom v s j = v j := by
  unfold fRoom
  by_cases h1 : fLacks v s = true
  · rw [if_pos h1]; exact fCrowd_o h _ _
  · rw [if_neg h1]
theorem fPlace_o {v : V} {s j : Nat} {w n a b : Int32} (hs : s < 12) (h : j < 13 ∨ 145 ≤ j) : fPlace v s w n a b j = v j := by
  unfold fPlace
  rw [zu_n _ _ (by omega), zu_n _ _ (by omega), zu_n _ _ (by omega), zu_n _ _ (by omega), zu_n _ _ (by omega), zu_n _ _ (by omega), zu_n _ _ (by omega), zu_n _ _ (by omega), zu_n _ _ (by omega), zu_n _ _ (by omega), zu_n _ _ (by omega)]
theorem fMet_co {v w : V} {s : Nat} {n : Int32} (hs : s < 12) (h : ∀ j, j < 8 → w j = v j) : fMet w s n = fMet v s n := by
  unfold fMet
  rw [h (s / 3) (by omega), h (4 + s / 3) (by omega)]
theorem fCost_co {v w : V} {s : Nat} {b n : Int32} (hs : s < 12) (h : ∀ j, j < 8 → w j = v j) : fCost w s b n = fCost v s b n := by
  unfold fCost fRaw
  rw [fMet_co hs h, h (s / 3) (by omega)]
theorem fBest_co {v w : V} {s : Nat} {n : Int32} (hs : s < 12) (h : ∀ j, j < 8 → w j = v j) : fBest w s n = fBest v s n := by
  unfold fBest fB1
  simp only [fCost_co hs h]
theorem cpT_at {v w : V} {t : Nat} (j : Nat) : cpT v w t j = if j = t ∨ j = 4 + t ∨ j = 152 + t ∨ j = 156 + t then w j else v j := by
  unfold cpT
  by_cases h1 : j = 156 + t
  · rw [if_pos (by omega), h1, zu_s]
  · rw [zu_n _ _ h1]
    by_cases h2 : j = 152 + t
    · rw [if_pos (by omega), h2, zu_s]
    · rw [zu_n _ _ h2]
      by_cases h3 : j = 4 + t
      · rw [if_pos (by omega), h3, zu_s]
      · rw [zu_n _ _ h3]
        by_cases h4 : j = t
        · rw [if_pos (by omega), h4, zu_s]
        · rw [zu_n _ _ h4, if_neg (by omega)]
theorem cpTs_at {v w : V} (j : Nat) : ∀ n, cpTs v w n j = if ∃ t, t < n ∧ (j = t ∨ j = 4 + t ∨ j = 152 + t ∨ j = 156 + t) then w j else v j
  | 0 => by rw [if_neg (by rintro ⟨t, h, -⟩; omega)]; rfl
  | n + 1 => by
    unfold cpTs
    rw [cpT_at, cpTs_at j n]
    by_cases h1 : j = n ∨ j = 4 + n ∨ j = 152 + n ∨ j = 156 + n
    · rw [if_pos h1, if_pos ⟨n, by omega, h1⟩]
    · rw [if_neg h1]
      by_cases h2 : ∃ t, t < n ∧ (j = t ∨ j = 4 + t ∨ j = 152 + t ∨ j = 156 + t)
      · rw [if_pos h2]
        obtain ⟨t, h3, h4⟩ := h2
        rw [if_pos ⟨t, by omega, h4⟩]
      · rw [if_neg h2, if_neg (by
          rintro ⟨t, h3, h4⟩
          by_cases h5 : t = n
          · exact h1 (h5 ▸ h4)
          · exact h2 ⟨t, by omega, h4⟩)]
theorem cpP_at {v w : V} {t : Nat} (j : Nat) : cpP v w t j = if 13 + 11 * t ≤ j ∧ j < 13 + 11 * t + 11 then w j else v j := by
  unfold cpP
  by_cases h : 13 + 11 * t ≤ j ∧ j < 13 + 11 * t + 11
  · rw [if_pos h]
    obtain ⟨f, hf, rfl⟩ : ∃ f, f < 11 ∧ j = 13 + 11 * t + f := ⟨j - (13 + 11 * t), by omega, by omega⟩
    rcases (show f = 0 ∨ f = 1 ∨ f = 2 ∨ f = 3 ∨ f = 4 ∨ f = 5 ∨ f = 6 ∨ f = 7 ∨ f = 8 ∨ f = 9 ∨ f = 10 by omega) with rfl | rfl | rfl | rfl | rfl | rfl | rfl | rfl | rfl | rfl | rfl <;> simp [upd]
  · rw [if_neg h, zu_n _ _ (by omega), zu_n _ _ (by omega), zu_n _ _ (by omega), zu_n _ _ (by omega), zu_n _ _ (by omega), zu_n _ _ (by omega), zu_n _ _ (by omega), zu_n _ _ (by omega), zu_n _ _ (by omega), zu_n _ _ (by omega), zu_n _ _ (by omega)]
theorem cpPs_at {v w : V} (j : Nat) : ∀ n, cpPs v w n j = if 13 ≤ j ∧ j < 13 + 11 * n then w j else v j
  | 0 => by rw [if_neg (by omega)]; rfl
  | n + 1 => by
    unfold cpPs
    rw [cpP_at, cpPs_at j n]
    by_cases h1 : 13 + 11 * n ≤ j ∧ j < 13 + 11 * n + 11
    · rw [if_pos h1, if_pos (by omega)]
    · rw [if_neg h1]
      by_cases h2 : 13 ≤ j ∧ j < 13 + 11 * n
      · rw [if_pos h2, if_pos (by omega)]
      · rw [if_neg h2, if_neg (by omega)]
theorem cpSs_at {v w : V} (j : Nat) : ∀ n, cpSs v w n j = if 8 ≤ j ∧ j < 8 + n then w j else v j
  | 0 => by rw [if_neg (by omega)]; rfl
  | n + 1 => by
    unfold cpSs
    by_cases h1 : j = 8 + n
    · rw [h1, zu_s, if_pos (by omega)]
    · rw [zu_n _ _ h1, cpSs_at j n]
      by_cases h2 : 8 ≤ j ∧ j < 8 + n
      · rw [if_pos h2, if_pos (by omega)]
      · rw [if_neg h2, if_neg (by omega)]
theorem cpAll_eq {v w : V} (h : ∀ j, 160 ≤ j → v j = w j) : cpAll v w = w := by
  funext j
  unfold cpAll
  rcases Nat.lt_or_ge j 160 with hj | hj
  · by_cases h1 : j = 151
    · rw [h1, zu_s]
    · rw [zu_n _ _ h1]
      by_cases h2 : j = 150
      · rw [h2, zu_s]
      · rw [zu_n _ _ h2]
        by_cases h3 : j = 149
        · rw [h3, zu_s]
        · rw [zu_n _ _ h3]
          by_cases h4 : j = 148
          · rw [h4, zu_s]
          · rw [zu_n _ _ h4]
            by_cases h5 : j = 147
            · rw [h5, zu_s]
            · rw [zu_n _ _ h5]
              by_cases h6 : j = 146
              · rw [h6, zu_s]
              · rw [zu_n _ _ h6]
                by_cases h7 : j = 145
                · rw [h7, zu_s]
                · rw [zu_n _ _ h7, cpSs_at, cpPs_at, cpTs_at]
                  by_cases h8 : 8 ≤ j ∧ j < 8 + 5
                  · rw [if_pos h8]
                  · rw [if_neg h8]
                    by_cases h9 : 13 ≤ j ∧ j < 13 + 11 * 12
                    · rw [if_pos h9]
                    · rw [if_neg h9, if_pos]
                      rcases (show j < 4 ∨ (4 ≤ j ∧ j < 8) ∨ (152 ≤ j ∧ j < 156) ∨ (156 ≤ j ∧ j < 160) by omega) with q | q | q | q
                      · exact ⟨j, by omega, by omega⟩
                      · exact ⟨j - 4, by omega, by omega⟩
                      · exact ⟨j - 152, by omega, by omega⟩
                      · exact ⟨j - 156, by omega, by omega⟩
  · rw [zu_n _ _ (by omega), zu_n _ _ (by omega), zu_n _ _ (by omega), zu_n _ _ (by omega), zu_n _ _ (by omega), zu_n _ _ (by omega), zu_n _ _ (by omega), cpSs_at, cpPs_at, cpTs_at, if_neg (by omega), if_neg (by omega), if_neg (by rintro ⟨t, h3, h4⟩; omega)]
    exact h j hj
end
section
set_option maxRecDepth 100000 in
set_option maxHeartbeats 4000000 in
theorem c_X5_isTable (l : Launch) (D : va_G) (k : Nat → ClassId) (a : Nat → Nat → Nat) (g : Mem) (x : Int32) : zI l yX5_isTable cX5_isTable 1 .boolean 0 0 D k a [.int (x)] (g) (fun r g' => r = (if ¬ x < 0 ∧ x < 4 then 1 else 0) ∧ g' = (g)) := by
  refine zI_of (own := RX5) (by decide +kernel) rfl (Nat.le_of_ble_eq_true rfl) ?_
  intro p e s m args below meth c X Q hret hH ls hl
  obtain ⟨hx, hb, hml, hown, hts⟩ := X.1
  have hl : lv_has ls 1 [(0, .int (x))] := hl
  have hH : zH D k a s (g) s.heap [] := hH
  refine lv_iload_n hx hb dX5_isTable_0 rfl (lv_at hl 0 rfl) ?_
  refine i_if_lt (tgt := 13) hx hb dX5_isTable_1 (by decide) (fun c1 => ?_) (fun c1 => ?_)
  · refine lv_iconst (v := 0) hx hb dX5_isTable_13 (by decide) ?_
    exact hret _ _ _ _ _ _ rfl ⟨by simp only [c1, if_true, if_false, not_true_eq_false, not_false_eq_true, and_self, or_true, true_or, or_false, false_or, and_true, true_and, and_false, false_and, or_self, decide_eq_true_eq, Bool.false_eq_true, z10], rfl⟩ hH dX5_isTable_14
  · refine lv_iload_n hx hb dX5_isTable_4 rfl (lv_at hl 0 rfl) ?_
    refine lv_iconst (v := 4) hx hb dX5_isTable_5 (by decide) ?_
    refine i_icmp_ge (tgt := 13) hx hb dX5_isTable_6 (by decide) (fun c2 => ?_) (fun c2 => ?_)
    · refine lv_iconst (v := 0) hx hb dX5_isTable_13 (by decide) ?_
      exact hret _ _ _ _ _ _ rfl ⟨by simp only [c1, c2, if_true, if_false, not_true_eq_false, not_false_eq_true, and_self, or_true, true_or, or_false, false_or, and_true, true_and, and_false, false_and, or_self, decide_eq_true_eq, Bool.false_eq_true, z10], rfl⟩ hH dX5_isTable_14
    · refine lv_iconst (v := 1) hx hb dX5_isTable_9 (by decide) ?_
      refine lv_goto (tgt := 14) hx hb dX5_isTable_10 (by decide) ?_
      exact hret _ _ _ _ _ _ rfl ⟨by simp only [c1, c2, if_true, if_false, not_true_eq_false, not_false_eq_true, and_self, or_true, true_or, or_false, false_or, and_true, true_and, and_false, false_and, or_self, decide_eq_true_eq, Bool.false_eq_true, z10], rfl⟩ hH dX5_isTable_14
set_option maxRecDepth 100000 in
set_option maxHeartbeats 4000000 in
theorem c_X5_isShape (l : Launch) (D : va_G) (k : Nat → ClassId) (a : Nat → Nat → Nat) (g : Mem) (x : Int32) : zI l yX5_isShape cX5_isShape 1 .boolean 0 0 D k a [.int (x)] (g) (fun r g' => r = (if ¬ x < 0 ∧ x < 12 then 1 else 0) ∧ g' = (g)) := by
  refine zI_of (own := RX5) (by decide +kernel) rfl (Nat.le_of_ble_eq_true rfl) ?_
  intro p e s m args below meth c X Q hret hH ls hl
  obtain ⟨hx, hb, hml, hown, hts⟩ := X.1
  have hl : lv_has ls 1 [(0, .int (x))] := hl
  have hH : zH D k a s (g) s.heap [] := hH
  refine lv_iload_n hx hb dX5_isShape_0 rfl (lv_at hl 0 rfl) ?_
  refine i_if_lt (tgt := 14) hx hb dX5_isShape_1 (by decide) (fun c1 => ?_) (fun c1 => ?_)
  · refine lv_iconst (v := 0) hx hb dX5_isShape_14 (by decide) ?_
    exact hret _ _ _ _ _ _ rfl ⟨by simp only [c1, if_true, if_false, not_true_eq_false, not_false_eq_true, and_self, or_true, true_or, or_false, false_or, and_true, true_and, and_false, false_and, or_self, decide_eq_true_eq, Bool.false_eq_true, z10], rfl⟩ hH dX5_isShape_15
  · refine lv_iload_n hx hb dX5_isShape_4 rfl (lv_at hl 0 rfl) ?_
    refine lv_bipush (v := 12) hx hb dX5_isShape_5 (by decide) ?_
    refine i_icmp_ge (tgt := 14) hx hb dX5_isShape_7 (by decide) (fun c2 => ?_) (fun c2 => ?_)
    · refine lv_iconst (v := 0) hx hb dX5_isShape_14 (by decide) ?_
      exact hret _ _ _ _ _ _ rfl ⟨by simp only [c1, c2, if_true, if_false, not_true_eq_false, not_false_eq_true, and_self, or_true, true_or, or_false, false_or, and_true, true_and, and_false, false_and, or_self, decide_eq_true_eq, Bool.false_eq_true, z10], rfl⟩ hH dX5_isShape_15
    · refine lv_iconst (v := 1) hx hb dX5_isShape_10 (by decide) ?_
      refine lv_goto (tgt := 15) hx hb dX5_isShape_11 (by decide) ?_
      exact hret _ _ _ _ _ _ rfl ⟨by simp only [c1, c2, if_true, if_false, not_true_eq_false, not_false_eq_true, and_self, or_true, true_or, or_false, false_or, and_true, true_and, and_false, false_and, or_self, decide_eq_true_eq, Bool.false_eq_true, z10], rfl⟩ hH dX5_isShape_15
set_option maxRecDepth 100000 in
set_option maxHeartbeats 4000000 in
theorem c_X5_isWay (l : Launch) (D : va_G) (k : Nat → ClassId) (a : Nat → Nat → Nat) (g : Mem) (x : Int32) : zI l yX5_isWay cX5_isWay 1 .boolean 0 0 D k a [.int (x)] (g) (fun r g' => r = (if ¬ x < 0 ∧ x < 3 then 1 else 0) ∧ g' = (g)) := by
  refine zI_of (own := RX5) (by decide +kernel) rfl (Nat.le_of_ble_eq_true rfl) ?_
  intro p e s m args below meth c X Q hret hH ls hl
  obtain ⟨hx, hb, hml, hown, hts⟩ := X.1
  have hl : lv_has ls 1 [(0, .int (x))] := hl
  have hH : zH D k a s (g) s.heap [] := hH
  refine lv_iload_n hx hb dX5_isWay_0 rfl (lv_at hl 0 rfl) ?_
  refine i_if_lt (tgt := 13) hx hb dX5_isWay_1 (by decide) (fun c1 => ?_) (fun c1 => ?_)
  · refine lv_iconst (v := 0) hx hb dX5_isWay_13 (by decide) ?_
    exact hret _ _ _ _ _ _ rfl ⟨by simp only [c1, if_true, if_false, not_true_eq_false, not_false_eq_true, and_self, or_true, true_or, or_false, false_or, and_true, true_and, and_false, false_and, or_self, decide_eq_true_eq, Bool.false_eq_true, z10], rfl⟩ hH dX5_isWay_14
  · refine lv_iload_n hx hb dX5_isWay_4 rfl (lv_at hl 0 rfl) ?_
    refine lv_iconst (v := 3) hx hb dX5_isWay_5 (by decide) ?_
    refine i_icmp_ge (tgt := 13) hx hb dX5_isWay_6 (by decide) (fun c2 => ?_) (fun c2 => ?_)
    · refine lv_iconst (v := 0) hx hb dX5_isWay_13 (by decide) ?_
      exact hret _ _ _ _ _ _ rfl ⟨by simp only [c1, c2, if_true, if_false, not_true_eq_false, not_false_eq_true, and_self, or_true, true_or, or_false, false_or, and_true, true_and, and_false, false_and, or_self, decide_eq_true_eq, Bool.false_eq_true, z10], rfl⟩ hH dX5_isWay_14
    · refine lv_iconst (v := 1) hx hb dX5_isWay_9 (by decide) ?_
      refine lv_goto (tgt := 14) hx hb dX5_isWay_10 (by decide) ?_
      exact hret _ _ _ _ _ _ rfl ⟨by simp only [c1, c2, if_true, if_false, not_true_eq_false, not_false_eq_true, and_self, or_true, true_or, or_false, false_or, and_true, true_and, and_false, false_and, or_self, decide_eq_true_eq, Bool.false_eq_true, z10], rfl⟩ hH dX5_isWay_14
set_option maxRecDepth 100000 in
set_option maxHeartbeats 4000000 in
theorem c_X5_leastNumberOf (l : Launch) (D : va_G) (k : Nat → ClassId) (a : Nat → Nat → Nat) (g : Mem) (z : Nat) (hz : z < 3) : zI l yX5_leastNumberOf cX5_leastNumberOf 1 .int 0 0 D k a [.int (nI z)] (g) (fun r g' => r = (if z = 0 then 0 else 1) ∧ g' = (g)) := by
  refine zI_of (own := RX5) (by decide +kernel) rfl (Nat.le_of_ble_eq_true rfl) ?_
  intro p e s m args below meth c X Q hret hH ls hl
  obtain ⟨hx, hb, hml, hown, hts⟩ := X.1
  have hl : lv_has ls 1 [(0, .int (nI z))] := hl
  have hH : zH D k a s (g) s.heap [] := hH
  refine lv_iload_n hx hb dX5_leastNumberOf_0 rfl (lv_at hl 0 rfl) ?_
  refine n_if_ne (A := z) (tgt := 8) hx hb (by omega) dX5_leastNumberOf_1 (by decide) (fun c1 => ?_) (fun c1 => ?_)
  · refine lv_iconst (v := 1) hx hb dX5_leastNumberOf_8 (by decide) ?_
    exact hret _ _ _ _ _ _ rfl ⟨by simp only [c1, if_true, if_false, not_true_eq_false, not_false_eq_true, and_self, or_true, true_or, or_false, false_or, and_true, true_and, and_false, false_and, or_self, decide_eq_true_eq, Bool.false_eq_true, z10], rfl⟩ hH dX5_leastNumberOf_9
  · refine lv_iconst (v := 0) hx hb dX5_leastNumberOf_4 (by decide) ?_
    refine lv_goto (tgt := 9) hx hb dX5_leastNumberOf_5 (by decide) ?_
    exact hret _ _ _ _ _ _ rfl ⟨by simp only [c1, if_true, if_false, not_true_eq_false, not_false_eq_true, and_self, or_true, true_or, or_false, false_or, and_true, true_and, and_false, false_and, or_self, decide_eq_true_eq, Bool.false_eq_true, z10], rfl⟩ hH dX5_leastNumberOf_9
set_option maxRecDepth 100000 in
set_option maxHeartbeats 4000000 in
theorem c_X5_isNumberOf (l : Launch) (D : va_G) (k : Nat → ClassId) (a : Nat → Nat → Nat) (g : Mem) (z : Nat) (hz : z < 3) (x : Int32) : zI l yX5_isNumberOf cX5_isNumberOf 2 .boolean 1 20 D k a [.int (nI z), .int (x)] (g) (fun r g' => r = (if ¬ x < (if z = 0 then 0 else 1) ∧ ¬ 9999 < x then 1 else 0) ∧ g' = (g)) := by
  refine zI_of (own := RX5) (by decide +kernel) rfl (Nat.le_of_ble_eq_true rfl) ?_
  intro p e s m args below meth c X Q hret hH ls hl
  obtain ⟨hx, hb, hml, hown, hts⟩ := X.1
  have hl : lv_has ls 2 [(0, .int (nI z)), (1, .int (x))] := hl
  have hH : zH D k a s (g) s.heap [] := hH
  refine lv_iload_n hx hb dX5_isNumberOf_0 rfl (lv_at hl 1 rfl) ?_
  refine lv_iload_n hx hb dX5_isNumberOf_1 rfl (lv_at hl 0 rfl) ?_
  refine z_callSi X hH (c_X5_leastNumberOf l D k a g (z) (by omega)) k_X5_201 [.int (x)] rfl rfl hl.1 (Nat.le_of_ble_eq_true rfl) ⟨Nat.le_of_ble_eq_true rfl, Nat.le_of_ble_eq_true rfl⟩ ⟨Nat.le_refl _, Nat.le_refl _⟩ dX5_isNumberOf_2 (fun r1 g2 H locs h3 hH => ?_)
  rw [h3.2] at hH
  rw [h3.1]
  refine i_icmp_lt (tgt := 19) hx hb dX5_isNumberOf_5 (by decide) (fun c4 => ?_) (fun c4 => ?_)
  · refine lv_iconst (v := 0) hx hb dX5_isNumberOf_19 (by decide) ?_
    exact hret _ _ _ _ _ _ rfl ⟨by simp only [c4, if_true, if_false, not_true_eq_false, not_false_eq_true, and_self, or_true, true_or, or_false, false_or, and_true, true_and, and_false, false_and, or_self, decide_eq_true_eq, Bool.false_eq_true, z10], rfl⟩ hH dX5_isNumberOf_20
  · refine lv_iload_n hx hb dX5_isNumberOf_8 rfl (lv_at hl 1 rfl) ?_
    refine lv_sipush (v := 9999) hx hb dX5_isNumberOf_9 (by decide) ?_
    refine i_icmp_gt (tgt := 19) hx hb dX5_isNumberOf_12 (by decide) (fun c5 => ?_) (fun c5 => ?_)
    · refine lv_iconst (v := 0) hx hb dX5_isNumberOf_19 (by decide) ?_
      exact hret _ _ _ _ _ _ rfl ⟨by simp only [c4, c5, if_true, if_false, not_true_eq_false, not_false_eq_true, and_self, or_true, true_or, or_false, false_or, and_true, true_and, and_false, false_and, or_self, decide_eq_true_eq, Bool.false_eq_true, z10], rfl⟩ hH dX5_isNumberOf_20
    · refine lv_iconst (v := 1) hx hb dX5_isNumberOf_15 (by decide) ?_
      refine lv_goto (tgt := 20) hx hb dX5_isNumberOf_16 (by decide) ?_
      exact hret _ _ _ _ _ _ rfl ⟨by simp only [c4, c5, if_true, if_false, not_true_eq_false, not_false_eq_true, and_self, or_true, true_or, or_false, false_or, and_true, true_and, and_false, false_and, or_self, decide_eq_true_eq, Bool.false_eq_true, z10], rfl⟩ hH dX5_isNumberOf_20
set_option maxRecDepth 100000 in
set_option maxHeartbeats 4000000 in
theorem c_X5_quotient (l : Launch) (D : va_G) (k : Nat → ClassId) (a : Nat → Nat → Nat) (g : Mem) (x y : Int32) : zI l yX5_quotient cX5_quotient 2 .int 0 0 D k a [.int (x), .int (y)] (g) (fun r g' => r = (fQuo x y) ∧ g' = (g)) := by
  refine zI_of (own := RX5) (by decide +kernel) rfl (Nat.le_of_ble_eq_true rfl) ?_
  intro p e s m args below meth c X Q hret hH ls hl
  obtain ⟨hx, hb, hml, hown, hts⟩ := X.1
  have hl : lv_has ls 2 [(0, .int (x)), (1, .int (y))] := hl
  have hH : zH D k a s (g) s.heap [] := hH
  refine lv_iload_n hx hb dX5_quotient_0 rfl (lv_at hl 1 rfl) ?_
  refine lv_iconst (v := 1) hx hb dX5_quotient_1 (by decide) ?_
  refine i_icmp_ge (tgt := 9) hx hb dX5_quotient_2 (by decide) (fun c1 => ?_) (fun c1 => ?_)
  · refine lv_iload_n hx hb dX5_quotient_9 rfl (lv_at hl 0 rfl) ?_
    refine lv_iload_n hx hb dX5_quotient_10 rfl (lv_at hl 1 rfl) ?_
    refine lv_idiv hx hb dX5_quotient_11 (by intro q; rw [q] at c1; exact absurd (by decide) c1) ?_
    exact hret _ _ _ _ _ _ rfl ⟨by simp only [fQuo, c1, if_true, if_false, not_true_eq_false, not_false_eq_true, and_self, or_true, true_or, or_false, false_or, and_true, true_and, and_false, false_and, or_self, decide_eq_true_eq, Bool.false_eq_true, z10], rfl⟩ hH dX5_quotient_12
  · refine lv_iconst (v := 0) hx hb dX5_quotient_5 (by decide) ?_
    refine lv_goto (tgt := 12) hx hb dX5_quotient_6 (by decide) ?_
    exact hret _ _ _ _ _ _ rfl ⟨by simp only [fQuo, c1, if_true, if_false, not_true_eq_false, not_false_eq_true, and_self, or_true, true_or, or_false, false_or, and_true, true_and, and_false, false_and, or_self, decide_eq_true_eq, Bool.false_eq_true, z10], rfl⟩ hH dX5_quotient_12
set_option maxRecDepth 100000 in
set_option maxHeartbeats 4000000 in
theorem c_X3_tableUnder (l : Launch) (D : va_G) (k : Nat → ClassId) (a : Nat → Nat → Nat) (g : Mem) (z : Nat) (hz : z < 12) : zR l yX3_tableUnder cX3_tableUnder 2 (.object "KeptPlans$Table") 0 0 D k a [.ref (a 0 0), .int (nI z)] (g) (a 0 (4 + z / 3)) := by
  refine zR_of (own := RX3) ⟨_, rfl⟩ (by decide +kernel) rfl (Nat.le_of_ble_eq_true rfl) ?_
  intro p e s m args below meth c X Q hret hH ls hl
  obtain ⟨hx, hb, hml, hown, hts⟩ := X.1
  have hl : lv_has ls 2 [(0, .ref (a 0 0)), (1, .int (nI z))] := hl
  have hH : zH D k a s (g) s.heap [] := hH
  refine lv_aload_n hx hb dX3_tableUnder_0 rfl (lv_at hl 0 rfl) ?_
  refine gf_X3_tables X hH (by omega) q_119 dX3_tableUnder_1 ?_
  refine lv_iload_n hx hb dX3_tableUnder_4 rfl (lv_at hl 1 rfl) ?_
  refine lv_iconst (v := 3) hx hb dX3_tableUnder_5 (by decide) ?_
  refine n_idiv (A := z) (B := 3) hx hb (z / 3) rfl (by omega) (by omega) (by omega) dX3_tableUnder_6 ?_
  refine ar_tabs X hH (by omega) (z / 3) (by omega) dX3_tableUnder_7 ?_
  exact hret _ _ _ _ hH dX3_tableUnder_8
set_option maxRecDepth 100000 in
set_option maxHeartbeats 4000000 in
theorem c_X5_bitsOf (l : Launch) (D : va_G) (k : Nat → ClassId) (a : Nat → Nat → Nat) (g : Mem) (x : Int32) : zI l yX5_bitsOf cX5_bitsOf 2 .int 0 0 D k a [.int (x)] (g) (fun r g' => r = (fBits x) ∧ g' = (g)) := by
  refine zI_of (own := RX5) (by decide +kernel) rfl (Nat.le_of_ble_eq_true rfl) ?_
  intro p e s m args below meth c X Q hret hH ls hl
  obtain ⟨hx, hb, hml, hown, hts⟩ := X.1
  have hl : lv_has ls 2 [(0, .int (x))] := hl
  have hH : zH D k a s (g) s.heap [] := hH
  refine lv_iconst (v := 0) hx hb dX5_bitsOf_0 (by decide) ?_
  refine lv_istore_n (lv' := [(1, .int 0), (0, .int (x))]) hx hb dX5_bitsOf_1 rfl hl (by decide) rfl (fun ls hl => ?_)
  by_cases h0 : 0 < x
  · obtain ⟨N, hN, rfl⟩ := zPos h0
    have hB := zBl_31 hN
    have hR : fBits (nI N) = nI (zBl N) := by rw [fBits, if_pos h0, nI_clamp hN]
    have hlt : ∀ i, i < zBl N → 0 < N / 2 ^ i := fun i h => (zBl_lt N i).mp h
    have hge : ∀ i, zBl N ≤ i → N / 2 ^ i = 0 := fun i h => zBl_ge h
    have Lp : ∀ (j i : Nat), i + j = zBl N → ∀ (H : Heap) (locs : List Loc) (ls : Array Slot), zH D k a s (g) H locs → lv_has ls 2 [(1, .int (nI i)), (0, .int (nI N))] → W p l e (zRoom 0 0) s m args below meth c H locs 0 0 Q (F0 m 2 ls []) := by
      intro j
      induction j with
      | zero =>
        intro i hij H locs ls hH hl
        obtain rfl : i = zBl N := by omega
        refine lv_iload_n hx hb dX5_bitsOf_2 rfl (lv_at hl 0 rfl) ?_
        refine lv_bipush (v := 31) hx hb dX5_bitsOf_3 (by decide) ?_
        refine n_icmp_ge (A := zBl N) (B := 31) (tgt := 20) hx hb (by omega) (by omega) dX5_bitsOf_5 (by decide) (fun c1 => ?_) (fun c1 => ?_)
        · refine lv_iload_n hx hb dX5_bitsOf_20 rfl (lv_at hl 0 rfl) ?_
          exact hret _ _ _ _ _ _ rfl ⟨by rw [hR], rfl⟩ hH dX5_bitsOf_21
        · refine lv_iload_n hx hb dX5_bitsOf_8 rfl (lv_at hl 1 rfl) ?_
          refine lv_iload_n hx hb dX5_bitsOf_9 rfl (lv_at hl 0 rfl) ?_
          refine n_ishr (A := N) (B := zBl N) hx hb (by omega) (by omega) dX5_bitsOf_10 ?_
          refine n_if_le (A := N / 2 ^ (zBl N)) (tgt := 20) hx hb (Nat.lt_of_le_of_lt (Nat.div_le_self _ _) hN) dX5_bitsOf_11 (by decide) (fun c2 => ?_) (fun q => absurd (hge _ (Nat.le_refl _)) (Nat.ne_of_gt q))
          refine lv_iload_n hx hb dX5_bitsOf_20 rfl (lv_at hl 0 rfl) ?_
          exact hret _ _ _ _ _ _ rfl ⟨by rw [hR], rfl⟩ hH dX5_bitsOf_21
      | succ j ih =>
        intro i hij H locs ls hH hl
        have hi2 : i < zBl N := by omega
        refine lv_iload_n hx hb dX5_bitsOf_2 rfl (lv_at hl 0 rfl) ?_
        refine lv_bipush (v := 31) hx hb dX5_bitsOf_3 (by decide) ?_
        refine n_icmp_ge (A := i) (B := 31) (tgt := 20) hx hb (by omega) (by omega) dX5_bitsOf_5 (by decide) (fun q => absurd q (by omega)) (fun c3 => ?_)
        refine lv_iload_n hx hb dX5_bitsOf_8 rfl (lv_at hl 1 rfl) ?_
        refine lv_iload_n hx hb dX5_bitsOf_9 rfl (lv_at hl 0 rfl) ?_
        refine n_ishr (A := N) (B := i) hx hb (by omega) (by omega) dX5_bitsOf_10 ?_
        refine n_if_le (A := N / 2 ^ i) (tgt := 20) hx hb (Nat.lt_of_le_of_lt (Nat.div_le_self _ _) hN) dX5_bitsOf_11 (by decide) (fun q => absurd q (Nat.ne_of_gt (hlt _ hi2))) (fun c4 => ?_)
        refine lv_iinc (v := nI (i + 1)) (lv' := [(1, .int (nI (i + 1))), (0, .int (nI N))]) hx hb dX5_bitsOf_14 hl (k := 0) rfl (z_inc1 _) (by decide) rfl (fun ls hl => ?_)
        refine lv_goto (tgt := 2) hx hb dX5_bitsOf_17 (by decide) ?_
        exact ih (i + 1) (by omega) _ _ _ hH (lv_sub hl [0, 1] rfl)
    exact Lp (zBl N) 0 (by omega) _ _ _ hH hl
  · have hR : fBits x = 0 := by rw [fBits, if_neg h0]
    refine lv_iload_n hx hb dX5_bitsOf_2 rfl (lv_at hl 0 rfl) ?_
    refine lv_bipush (v := 31) hx hb dX5_bitsOf_3 (by decide) ?_
    refine lv_icmp_ge (tgt := 20) hx hb dX5_bitsOf_5 (by decide) (fun q => absurd q (by decide)) (fun _ => ?_)
    refine lv_iload_n hx hb dX5_bitsOf_8 rfl (lv_at hl 1 rfl) ?_
    refine lv_iload_n hx hb dX5_bitsOf_9 rfl (lv_at hl 0 rfl) ?_
    refine lv_ishr hx hb dX5_bitsOf_10 ?_
    refine i_if_le (tgt := 20) hx hb dX5_bitsOf_11 (by decide) (fun c5 => ?_) (fun q => absurd (z_shr0p q) h0)
    refine lv_iload_n hx hb dX5_bitsOf_20 rfl (lv_at hl 0 rfl) ?_
    exact hret _ _ _ _ _ _ rfl ⟨by rw [hR], rfl⟩ hH dX5_bitsOf_21
set_option maxRecDepth 100000 in
set_option maxHeartbeats 4000000 in
theorem c_X3_rowsMet (l : Launch) (D : va_G) (k : Nat → ClassId) (a : Nat → Nat → Nat) (g : Mem) (v : V) (z : Nat) (hz : z < 12) (n : Int32) : zI l yX3_rowsMet cX3_rowsMet 5 .int 1 21 D k a [.ref (a 0 0), .int (nI z), .int (n)] (zUp g 0 v) (fun r g' => r = (fMet v z n) ∧ g' = (zUp g 0 v)) := by
  refine zI_of (own := RX3) (by decide +kernel) rfl (Nat.le_of_ble_eq_true rfl) ?_
  intro p e s m args below meth c X Q hret hH ls hl
  obtain ⟨hx, hb, hml, hown, hts⟩ := X.1
  have hl : lv_has ls 5 [(0, .ref (a 0 0)), (1, .int (nI z)), (2, .int (n))] := hl
  have hH : zH D k a s (zUp g 0 v) s.heap [] := hH
  refine lv_iload_n hx hb dX3_rowsMet_0 rfl (lv_at hl 1 rfl) ?_
  refine lv_iconst (v := 3) hx hb dX3_rowsMet_1 (by decide) ?_
  refine n_irem (A := z) (B := 3) hx hb (z % 3) rfl (by omega) (by omega) (by omega) dX3_rowsMet_2 ?_
  refine lv_iconst (v := 1) hx hb dX3_rowsMet_3 (by decide) ?_
  refine n_icmp_eq (A := z % 3) (B := 1) (tgt := 9) hx hb (by omega) (by omega) dX3_rowsMet_4 (by decide) (fun c1 => ?_) (fun c1 => ?_)
  · refine lv_aload_n hx hb dX3_rowsMet_9 rfl (lv_at hl 0 rfl) ?_
    refine lv_iload_n hx hb dX3_rowsMet_10 rfl (lv_at hl 1 rfl) ?_
    refine z_callVr X hH (c_X3_tableUnder l D k a (zUp g 0 v) (z) (by omega)) k_X3_64 (rv_X3 X hH (by omega)) [] rfl rfl hl.1 (Nat.le_of_ble_eq_true rfl) ⟨Nat.le_of_ble_eq_true rfl, Nat.le_of_ble_eq_true rfl⟩ ⟨Nat.le_refl _, Nat.le_refl _⟩ dX3_rowsMet_11 (fun H locs hH => ?_)
    refine lv_astore_n (lv' := [(3, .ref (a 0 (4 + z / 3))), (0, .ref (a 0 0)), (1, .int (nI z)), (2, .int (n))]) hx hb dX3_rowsMet_14 rfl hl (by decide) rfl (fun ls hl => ?_)
    refine lv_aload_n hx hb dX3_rowsMet_15 rfl (lv_at hl 0 rfl) ?_
    refine gn_X4_rows X hH (by omega) q_38 dX3_rowsMet_16 ?_
    refine lv_iload_n hx hb dX3_rowsMet_19 rfl (lv_at hl 3 rfl) ?_
    refine lv_imul hx hb dX3_rowsMet_20 ?_
    refine lv_aload_n hx hb dX3_rowsMet_21 rfl (lv_at hl 0 rfl) ?_
    refine gn_X4_keys X hH (by omega) q_41 dX3_rowsMet_22 ?_
    refine lv_iadd hx hb dX3_rowsMet_25 ?_
    refine lv_iconst (v := 1) hx hb dX3_rowsMet_26 (by decide) ?_
    refine lv_isub hx hb dX3_rowsMet_27 ?_
    refine lv_aload_n hx hb dX3_rowsMet_28 rfl (lv_at hl 0 rfl) ?_
    refine gn_X4_keys X hH (by omega) q_41 dX3_rowsMet_29 ?_
    refine z_callNi X hH (c_X5_quotient l D k a (zUp g 0 v) ((((v (z / 3)) * n) + (v (4 + (z / 3)))) - 1) (v (4 + (z / 3)))) k_X3_82 (X.2.2.2.2.2.2.2.2.2.2.2.1) [] rfl rfl hl.1 (Nat.le_of_ble_eq_true rfl) ⟨Nat.le_of_ble_eq_true rfl, Nat.le_of_ble_eq_true rfl⟩ ⟨Nat.le_refl _, Nat.le_refl _⟩ dX3_rowsMet_32 (fun r2 g3 H locs h4 hH => ?_)
    rw [h4.2] at hH
    rw [h4.1]
    refine lv_istore (lv' := [(4, .int (fQuo ((((v (z / 3)) * n) + (v (4 + (z / 3)))) - 1) (v (4 + (z / 3))))), (3, .ref (a 0 (4 + z / 3))), (0, .ref (a 0 0)), (1, .int (nI z)), (2, .int (n))]) hx hb dX3_rowsMet_35 hl (by decide) rfl (fun ls hl => ?_)
    refine lv_iload hx hb dX3_rowsMet_37 (lv_at hl 0 rfl) ?_
    refine lv_aload_n hx hb dX3_rowsMet_39 rfl (lv_at hl 1 rfl) ?_
    refine gn_X4_rows X hH (by omega) q_38 dX3_rowsMet_40 ?_
    refine z_min X q_315 hl.1 (Nat.le_of_ble_eq_true rfl) (Nat.le_of_ble_eq_true rfl) ⟨Nat.le_refl _, Nat.le_refl _⟩ dX3_rowsMet_43 ?_
    exact hret _ _ _ _ _ _ rfl ⟨by simp only [fMet, c1, if_true, if_false, not_true_eq_false, not_false_eq_true, and_self, or_true, true_or, or_false, false_or, and_true, true_and, and_false, false_and, or_self, decide_eq_true_eq, Bool.false_eq_true, z10], rfl⟩ hH dX3_rowsMet_46
  · refine lv_iload_n hx hb dX3_rowsMet_7 rfl (lv_at hl 2 rfl) ?_
    exact hret _ _ _ _ _ _ rfl ⟨by simp only [fMet, c1, if_true, if_false, not_true_eq_false, not_false_eq_true, and_self, or_true, true_or, or_false, false_or, and_true, true_and, and_false, false_and, or_self, decide_eq_true_eq, Bool.false_eq_true, z10], rfl⟩ hH dX3_rowsMet_8
set_option maxRecDepth 100000 in
set_option maxHeartbeats 4000000 in
theorem c_X3_priceBy (l : Launch) (D : va_G) (k : Nat → ClassId) (a : Nat → Nat → Nat) (g : Mem) (v : V) (z : Nat) (hz : z < 12) (w n : Int32) : zI l yX3_priceBy cX3_priceBy 7 .int 2 45 D k a [.ref (a 0 0), .int (nI z), .int (w), .int (n)] (zUp g 0 v) (fun r g' => r = (fCost v z w n) ∧ g' = (zUp g 0 v)) := by
  refine zI_of (own := RX3) (by decide +kernel) rfl (Nat.le_of_ble_eq_true rfl) ?_
  intro p e s m args below meth c X Q hret hH ls hl
  obtain ⟨hx, hb, hml, hown, hts⟩ := X.1
  have hl : lv_has ls 7 [(0, .ref (a 0 0)), (1, .int (nI z)), (2, .int (w)), (3, .int (n))] := hl
  have hH : zH D k a s (zUp g 0 v) s.heap [] := hH
  refine lv_iload_n hx hb dX3_priceBy_0 rfl (lv_at hl 1 rfl) ?_
  refine lv_iconst (v := 3) hx hb dX3_priceBy_1 (by decide) ?_
  refine n_irem (A := z) (B := 3) hx hb (z % 3) rfl (by omega) (by omega) (by omega) dX3_priceBy_2 ?_
  refine lv_istore (lv' := [(4, .int (nI (z % 3))), (0, .ref (a 0 0)), (1, .int (nI z)), (2, .int (w)), (3, .int (n))]) hx hb dX3_priceBy_3 hl (by decide) rfl (fun ls hl => ?_)
  refine lv_aload_n hx hb dX3_priceBy_5 rfl (lv_at hl 1 rfl) ?_
  refine lv_iload_n hx hb dX3_priceBy_6 rfl (lv_at hl 2 rfl) ?_
  refine z_callVr X hH (c_X3_tableUnder l D k a (zUp g 0 v) (z) (by omega)) k_X3_64 (rv_X3 X hH (by omega)) [] rfl rfl hl.1 (Nat.le_of_ble_eq_true rfl) ⟨Nat.le_of_ble_eq_true rfl, Nat.le_of_ble_eq_true rfl⟩ ⟨Nat.le_refl _, Nat.le_refl _⟩ dX3_priceBy_7 (fun H locs hH => ?_)
  refine gn_X4_rows X hH (by omega) q_38 dX3_priceBy_10 ?_
  refine lv_istore (lv' := [(5, .int (v (z / 3))), (4, .int (nI (z % 3))), (0, .ref (a 0 0)), (1, .int (nI z)), (2, .int (w)), (3, .int (n))]) hx hb dX3_priceBy_13 hl (by decide) rfl (fun ls hl => ?_)
  refine lv_iload_n hx hb dX3_priceBy_15 rfl (lv_at hl 4 rfl) ?_
  refine lv_if_ne (tgt := 44) hx hb dX3_priceBy_16 (by decide) (fun c1 => ?_) (fun c1 => ?_)
  · refine lv_iload_n hx hb dX3_priceBy_44 rfl (lv_at hl 4 rfl) ?_
    refine lv_iconst (v := 1) hx hb dX3_priceBy_45 (by decide) ?_
    refine lv_icmp_ne (tgt := 78) hx hb dX3_priceBy_46 (by decide) (fun c2 => ?_) (fun c2 => ?_)
    · refine lv_iload hx hb dX3_priceBy_78 (lv_at hl 1 rfl) ?_
      refine lv_iconst (v := 2) hx hb dX3_priceBy_80 (by decide) ?_
      refine n_icmp_ne (A := z % 3) (B := 2) (tgt := 97) hx hb (by omega) (by omega) dX3_priceBy_81 (by decide) (fun c3 => ?_) (fun c3 => ?_)
      · refine lv_iconst (v := 2) hx hb dX3_priceBy_97 (by decide) ?_
        refine lv_iload hx hb dX3_priceBy_98 (lv_at hl 0 rfl) ?_
        refine lv_imul hx hb dX3_priceBy_100 ?_
        refine lv_istore (lv' := [(6, .int (2 * (v (z / 3)))), (5, .int (v (z / 3))), (4, .int (nI (z % 3))), (0, .ref (a 0 0)), (1, .int (nI z)), (2, .int (w)), (3, .int (n))]) hx hb dX3_priceBy_101 hl (by decide) rfl (fun ls hl => ?_)
        refine lv_iload hx hb dX3_priceBy_103 (lv_at hl 0 rfl) ?_
        refine lv_ldc hx hb hown (hts _ q_316) dX3_priceBy_105 ?_
        refine z_min X q_315 hl.1 (Nat.le_of_ble_eq_true rfl) (Nat.le_of_ble_eq_true rfl) ⟨Nat.le_refl _, Nat.le_refl _⟩ dX3_priceBy_107 ?_
        exact hret _ _ _ _ _ _ rfl ⟨by simp only [fCost, fRaw, c1, c2, c3, if_true, if_false, not_true_eq_false, not_false_eq_true, and_self, or_true, true_or, or_false, false_or, and_true, true_and, and_false, false_and, or_self, decide_eq_true_eq, Bool.false_eq_true, z10], rfl⟩ hH dX3_priceBy_110
      · refine lv_iload hx hb dX3_priceBy_84 (lv_at hl 0 rfl) ?_
        refine lv_iload_n hx hb dX3_priceBy_86 rfl (lv_at hl 5 rfl) ?_
        refine lv_iload hx hb dX3_priceBy_87 (lv_at hl 0 rfl) ?_
        refine z_callNi X hH (c_X5_bitsOf l D k a (zUp g 0 v) (v (z / 3))) k_X3_68 X.2.2.2.2.2.2.2.2.2.2.1 [.int (n), .int (v (z / 3))] rfl rfl hl.1 (Nat.le_of_ble_eq_true rfl) ⟨Nat.le_of_ble_eq_true rfl, Nat.le_of_ble_eq_true rfl⟩ ⟨Nat.le_refl _, Nat.le_refl _⟩ dX3_priceBy_89 (fun r4 g5 H locs h6 hH => ?_)
        rw [h6.2] at hH
        rw [h6.1]
        refine lv_imul hx hb dX3_priceBy_92 ?_
        refine lv_iadd hx hb dX3_priceBy_93 ?_
        refine lv_goto (tgt := 101) hx hb dX3_priceBy_94 (by decide) ?_
        refine lv_istore (lv' := [(6, .int ((v (z / 3)) + (n * (fBits (v (z / 3)))))), (5, .int (v (z / 3))), (4, .int (nI (z % 3))), (0, .ref (a 0 0)), (1, .int (nI z)), (2, .int (w)), (3, .int (n))]) hx hb dX3_priceBy_101 hl (by decide) rfl (fun ls hl => ?_)
        refine lv_iload hx hb dX3_priceBy_103 (lv_at hl 0 rfl) ?_
        refine lv_ldc hx hb hown (hts _ q_316) dX3_priceBy_105 ?_
        refine z_min X q_315 hl.1 (Nat.le_of_ble_eq_true rfl) (Nat.le_of_ble_eq_true rfl) ⟨Nat.le_refl _, Nat.le_refl _⟩ dX3_priceBy_107 ?_
        exact hret _ _ _ _ _ _ rfl ⟨by simp only [fCost, fRaw, c1, c2, c3, if_true, if_false, not_true_eq_false, not_false_eq_true, and_self, or_true, true_or, or_false, false_or, and_true, true_and, and_false, false_and, or_self, decide_eq_true_eq, Bool.false_eq_true, z10], rfl⟩ hH dX3_priceBy_110
    · refine lv_iload hx hb dX3_priceBy_49 (lv_at hl 0 rfl) ?_
      refine z_callNi X hH (c_X5_bitsOf l D k a (zUp g 0 v) (v (z / 3))) k_X3_68 X.2.2.2.2.2.2.2.2.2.2.1 [] rfl rfl hl.1 (Nat.le_of_ble_eq_true rfl) ⟨Nat.le_of_ble_eq_true rfl, Nat.le_of_ble_eq_true rfl⟩ ⟨Nat.le_refl _, Nat.le_refl _⟩ dX3_priceBy_51 (fun r7 g8 H locs h9 hH => ?_)
      rw [h9.2] at hH
      rw [h9.1]
      refine lv_aload_n hx hb dX3_priceBy_54 rfl (lv_at hl 2 rfl) ?_
      refine lv_iload_n hx hb dX3_priceBy_55 rfl (lv_at hl 3 rfl) ?_
      refine lv_iload_n hx hb dX3_priceBy_56 rfl (lv_at hl 5 rfl) ?_
      refine z_callVi X hH (c_X3_rowsMet l D k a g v (z) (by omega) n) k_X3_72 (rv_X3 X hH (by omega)) [.int (fBits (v (z / 3)))] rfl rfl hl.1 (Nat.le_of_ble_eq_true rfl) ⟨Nat.le_of_ble_eq_true rfl, Nat.le_of_ble_eq_true rfl⟩ ⟨Nat.le_refl _, Nat.le_refl _⟩ dX3_priceBy_57 (fun r10 g11 H locs h12 hH => ?_)
      rw [h12.2] at hH
      rw [h12.1]
      refine lv_iload hx hb dX3_priceBy_60 (lv_at hl 1 rfl) ?_
      refine lv_iconst (v := 2) hx hb dX3_priceBy_62 (by decide) ?_
      refine n_icmp_ne (A := z % 3) (B := 2) (tgt := 70) hx hb (by omega) (by omega) dX3_priceBy_63 (by decide) (fun c13 => ?_) (fun c13 => ?_)
      · refine lv_iconst (v := 3) hx hb dX3_priceBy_70 (by decide) ?_
        refine lv_imul hx hb dX3_priceBy_71 ?_
        refine lv_iadd hx hb dX3_priceBy_72 ?_
        refine lv_istore (lv' := [(6, .int ((fBits (v (z / 3))) + ((fMet v z n) * 3))), (5, .int (v (z / 3))), (4, .int (nI (z % 3))), (0, .ref (a 0 0)), (1, .int (nI z)), (2, .int (w)), (3, .int (n))]) hx hb dX3_priceBy_73 hl (by decide) rfl (fun ls hl => ?_)
        refine lv_goto (tgt := 103) hx hb dX3_priceBy_75 (by decide) ?_
        refine lv_iload hx hb dX3_priceBy_103 (lv_at hl 0 rfl) ?_
        refine lv_ldc hx hb hown (hts _ q_316) dX3_priceBy_105 ?_
        refine z_min X q_315 hl.1 (Nat.le_of_ble_eq_true rfl) (Nat.le_of_ble_eq_true rfl) ⟨Nat.le_refl _, Nat.le_refl _⟩ dX3_priceBy_107 ?_
        exact hret _ _ _ _ _ _ rfl ⟨by simp only [fCost, fRaw, c1, c2, c13, if_true, if_false, not_true_eq_false, not_false_eq_true, and_self, or_true, true_or, or_false, false_or, and_true, true_and, and_false, false_and, or_self, decide_eq_true_eq, Bool.false_eq_true, z10], rfl⟩ hH dX3_priceBy_110
      · refine lv_iconst (v := 1) hx hb dX3_priceBy_66 (by decide) ?_
        refine lv_goto (tgt := 71) hx hb dX3_priceBy_67 (by decide) ?_
        refine lv_imul hx hb dX3_priceBy_71 ?_
        refine lv_iadd hx hb dX3_priceBy_72 ?_
        refine lv_istore (lv' := [(6, .int ((fBits (v (z / 3))) + ((fMet v z n) * 1))), (5, .int (v (z / 3))), (4, .int (nI (z % 3))), (0, .ref (a 0 0)), (1, .int (nI z)), (2, .int (w)), (3, .int (n))]) hx hb dX3_priceBy_73 hl (by decide) rfl (fun ls hl => ?_)
        refine lv_goto (tgt := 103) hx hb dX3_priceBy_75 (by decide) ?_
        refine lv_iload hx hb dX3_priceBy_103 (lv_at hl 0 rfl) ?_
        refine lv_ldc hx hb hown (hts _ q_316) dX3_priceBy_105 ?_
        refine z_min X q_315 hl.1 (Nat.le_of_ble_eq_true rfl) (Nat.le_of_ble_eq_true rfl) ⟨Nat.le_refl _, Nat.le_refl _⟩ dX3_priceBy_107 ?_
        exact hret _ _ _ _ _ _ rfl ⟨by simp only [fCost, fRaw, c1, c2, c13, if_true, if_false, not_true_eq_false, not_false_eq_true, and_self, or_true, true_or, or_false, false_or, and_true, true_and, and_false, false_and, or_self, decide_eq_true_eq, Bool.false_eq_true, z10], rfl⟩ hH dX3_priceBy_110
  · refine lv_iload hx hb dX3_priceBy_19 (lv_at hl 1 rfl) ?_
    refine lv_iconst (v := 2) hx hb dX3_priceBy_21 (by decide) ?_
    refine n_icmp_ne (A := z % 3) (B := 2) (tgt := 37) hx hb (by omega) (by omega) dX3_priceBy_22 (by decide) (fun c14 => ?_) (fun c14 => ?_)
    · refine lv_iload hx hb dX3_priceBy_37 (lv_at hl 0 rfl) ?_
      refine lv_istore (lv' := [(6, .int (v (z / 3))), (5, .int (v (z / 3))), (4, .int (nI (z % 3))), (0, .ref (a 0 0)), (1, .int (nI z)), (2, .int (w)), (3, .int (n))]) hx hb dX3_priceBy_39 hl (by decide) rfl (fun ls hl => ?_)
      refine lv_goto (tgt := 103) hx hb dX3_priceBy_41 (by decide) ?_
      refine lv_iload hx hb dX3_priceBy_103 (lv_at hl 0 rfl) ?_
      refine lv_ldc hx hb hown (hts _ q_316) dX3_priceBy_105 ?_
      refine z_min X q_315 hl.1 (Nat.le_of_ble_eq_true rfl) (Nat.le_of_ble_eq_true rfl) ⟨Nat.le_refl _, Nat.le_refl _⟩ dX3_priceBy_107 ?_
      exact hret _ _ _ _ _ _ rfl ⟨by simp only [fCost, fRaw, c1, c14, if_true, if_false, not_true_eq_false, not_false_eq_true, and_self, or_true, true_or, or_false, false_or, and_true, true_and, and_false, false_and, or_self, decide_eq_true_eq, Bool.false_eq_true, z10], rfl⟩ hH dX3_priceBy_110
    · refine lv_iload hx hb dX3_priceBy_25 (lv_at hl 0 rfl) ?_
      refine lv_iload_n hx hb dX3_priceBy_27 rfl (lv_at hl 5 rfl) ?_
      refine lv_iload_n hx hb dX3_priceBy_28 rfl (lv_at hl 5 rfl) ?_
      refine z_callNi X hH (c_X5_bitsOf l D k a (zUp g 0 v) n) k_X3_68 X.2.2.2.2.2.2.2.2.2.2.1 [.int (n), .int (v (z / 3))] rfl rfl hl.1 (Nat.le_of_ble_eq_true rfl) ⟨Nat.le_of_ble_eq_true rfl, Nat.le_of_ble_eq_true rfl⟩ ⟨Nat.le_refl _, Nat.le_refl _⟩ dX3_priceBy_29 (fun r15 g16 H locs h17 hH => ?_)
      rw [h17.2] at hH
      rw [h17.1]
      refine lv_imul hx hb dX3_priceBy_32 ?_
      refine lv_iadd hx hb dX3_priceBy_33 ?_
      refine lv_goto (tgt := 39) hx hb dX3_priceBy_34 (by decide) ?_
      refine lv_istore (lv' := [(6, .int ((v (z / 3)) + (n * (fBits n)))), (5, .int (v (z / 3))), (4, .int (nI (z % 3))), (0, .ref (a 0 0)), (1, .int (nI z)), (2, .int (w)), (3, .int (n))]) hx hb dX3_priceBy_39 hl (by decide) rfl (fun ls hl => ?_)
      refine lv_goto (tgt := 103) hx hb dX3_priceBy_41 (by decide) ?_
      refine lv_iload hx hb dX3_priceBy_103 (lv_at hl 0 rfl) ?_
      refine lv_ldc hx hb hown (hts _ q_316) dX3_priceBy_105 ?_
      refine z_min X q_315 hl.1 (Nat.le_of_ble_eq_true rfl) (Nat.le_of_ble_eq_true rfl) ⟨Nat.le_refl _, Nat.le_refl _⟩ dX3_priceBy_107 ?_
      exact hret _ _ _ _ _ _ rfl ⟨by simp only [fCost, fRaw, c1, c14, if_true, if_false, not_true_eq_false, not_false_eq_true, and_self, or_true, true_or, or_false, false_or, and_true, true_and, and_false, false_and, or_self, decide_eq_true_eq, Bool.false_eq_true, z10], rfl⟩ hH dX3_priceBy_110
set_option maxRecDepth 100000 in
set_option maxHeartbeats 4000000 in
theorem c_X3_cheapestWay (l : Launch) (D : va_G) (k : Nat → ClassId) (a : Nat → Nat → Nat) (g : Mem) (v : V) (z : Nat) (hz : z < 12) (n : Int32) : zI l yX3_cheapestWay cX3_cheapestWay 7 .int 3 71 D k a [.ref (a 0 0), .int (nI z), .int (n)] (zUp g 0 v) (fun r g' => r = (fBest v z n) ∧ g' = (zUp g 0 v)) := by
  refine zI_of (own := RX3) (by decide +kernel) rfl (Nat.le_of_ble_eq_true rfl) ?_
  intro p e s m args below meth c X Q hret hH ls hl
  obtain ⟨hx, hb, hml, hown, hts⟩ := X.1
  have hl : lv_has ls 7 [(0, .ref (a 0 0)), (1, .int (nI z)), (2, .int (n))] := hl
  have hH : zH D k a s (zUp g 0 v) s.heap [] := hH
  refine lv_iconst (v := 0) hx hb dX3_cheapestWay_0 (by decide) ?_
  refine lv_istore_n (lv' := [(3, .int 0), (0, .ref (a 0 0)), (1, .int (nI z)), (2, .int (n))]) hx hb dX3_cheapestWay_1 rfl hl (by decide) rfl (fun ls hl => ?_)
  refine lv_aload_n hx hb dX3_cheapestWay_2 rfl (lv_at hl 1 rfl) ?_
  refine lv_iload_n hx hb dX3_cheapestWay_3 rfl (lv_at hl 2 rfl) ?_
  refine lv_iconst (v := 0) hx hb dX3_cheapestWay_4 (by decide) ?_
  refine lv_iload_n hx hb dX3_cheapestWay_5 rfl (lv_at hl 3 rfl) ?_
  refine z_callVi X hH (c_X3_priceBy l D k a g v (z) (by omega) 0 n) k_X3_85 (rv_X3 X hH (by omega)) [] rfl rfl hl.1 (Nat.le_of_ble_eq_true rfl) ⟨Nat.le_of_ble_eq_true rfl, Nat.le_of_ble_eq_true rfl⟩ ⟨Nat.le_refl _, Nat.le_refl _⟩ dX3_cheapestWay_6 (fun r1 g2 H locs h3 hH => ?_)
  rw [h3.2] at hH
  rw [h3.1]
  refine lv_istore (lv' := [(4, .int (fCost v z 0 n)), (3, .int 0), (0, .ref (a 0 0)), (1, .int (nI z)), (2, .int (n))]) hx hb dX3_cheapestWay_9 hl (by decide) rfl (fun ls hl => ?_)
  refine lv_iconst (v := 1) hx hb dX3_cheapestWay_11 (by decide) ?_
  refine lv_istore (lv' := [(5, .int 1), (4, .int (fCost v z 0 n)), (3, .int 0), (0, .ref (a 0 0)), (1, .int (nI z)), (2, .int (n))]) hx hb dX3_cheapestWay_12 hl (by decide) rfl (fun ls hl => ?_)
  refine lv_iload hx hb dX3_cheapestWay_14 (lv_at hl 0 rfl) ?_
  refine lv_iconst (v := 3) hx hb dX3_cheapestWay_16 (by decide) ?_
  refine lv_icmp_ge (tgt := 50) hx hb dX3_cheapestWay_17 (by decide) (fun q => absurd q (by decide)) (fun _ => ?_)
  refine lv_aload_n hx hb dX3_cheapestWay_20 rfl (lv_at hl 3 rfl) ?_
  refine lv_iload_n hx hb dX3_cheapestWay_21 rfl (lv_at hl 4 rfl) ?_
  refine lv_iload hx hb dX3_cheapestWay_22 (lv_at hl 0 rfl) ?_
  refine lv_iload_n hx hb dX3_cheapestWay_24 rfl (lv_at hl 5 rfl) ?_
  refine z_callVi X hH (c_X3_priceBy l D k a g v (z) (by omega) 1 n) k_X3_85 (rv_X3 X hH (by omega)) [] rfl rfl hl.1 (Nat.le_of_ble_eq_true rfl) ⟨Nat.le_of_ble_eq_true rfl, Nat.le_of_ble_eq_true rfl⟩ ⟨Nat.le_refl _, Nat.le_refl _⟩ dX3_cheapestWay_25 (fun r4 g5 H locs h6 hH => ?_)
  rw [h6.2] at hH
  rw [h6.1]
  refine lv_istore (lv' := [(6, .int (fCost v z 1 n)), (5, .int 1), (4, .int (fCost v z 0 n)), (3, .int 0), (0, .ref (a 0 0)), (1, .int (nI z)), (2, .int (n))]) hx hb dX3_cheapestWay_28 hl (by decide) rfl (fun ls hl => ?_)
  refine lv_iload hx hb dX3_cheapestWay_30 (lv_at hl 0 rfl) ?_
  refine lv_iload hx hb dX3_cheapestWay_32 (lv_at hl 2 rfl) ?_
  refine i_icmp_ge (tgt := 44) hx hb dX3_cheapestWay_34 (by decide) (fun c7 => ?_) (fun c7 => ?_)
  · refine lv_iinc (v := 2) (lv' := [(5, .int 2), (6, .int (fCost v z 1 n)), (4, .int (fCost v z 0 n)), (3, .int 0), (0, .ref (a 0 0)), (1, .int (nI z)), (2, .int (n))]) hx hb dX3_cheapestWay_44 hl (k := 1) rfl (by decide) (by decide) rfl (fun ls hl => ?_)
    refine lv_goto (tgt := 14) hx hb dX3_cheapestWay_47 (by decide) ?_
    refine lv_iload hx hb dX3_cheapestWay_14 (lv_at hl 0 rfl) ?_
    refine lv_iconst (v := 3) hx hb dX3_cheapestWay_16 (by decide) ?_
    refine lv_icmp_ge (tgt := 50) hx hb dX3_cheapestWay_17 (by decide) (fun q => absurd q (by decide)) (fun _ => ?_)
    refine lv_aload_n hx hb dX3_cheapestWay_20 rfl (lv_at hl 4 rfl) ?_
    refine lv_iload_n hx hb dX3_cheapestWay_21 rfl (lv_at hl 5 rfl) ?_
    refine lv_iload hx hb dX3_cheapestWay_22 (lv_at hl 0 rfl) ?_
    refine lv_iload_n hx hb dX3_cheapestWay_24 rfl (lv_at hl 6 rfl) ?_
    refine z_callVi X hH (c_X3_priceBy l D k a g v (z) (by omega) 2 n) k_X3_85 (rv_X3 X hH (by omega)) [] rfl rfl hl.1 (Nat.le_of_ble_eq_true rfl) ⟨Nat.le_of_ble_eq_true rfl, Nat.le_of_ble_eq_true rfl⟩ ⟨Nat.le_refl _, Nat.le_refl _⟩ dX3_cheapestWay_25 (fun r8 g9 H locs h10 hH => ?_)
    rw [h10.2] at hH
    rw [h10.1]
    refine lv_istore (lv' := [(6, .int (fCost v z 2 n)), (5, .int 2), (4, .int (fCost v z 0 n)), (3, .int 0), (0, .ref (a 0 0)), (1, .int (nI z)), (2, .int (n))]) hx hb dX3_cheapestWay_28 hl (by decide) rfl (fun ls hl => ?_)
    refine lv_iload hx hb dX3_cheapestWay_30 (lv_at hl 0 rfl) ?_
    refine lv_iload hx hb dX3_cheapestWay_32 (lv_at hl 2 rfl) ?_
    refine i_icmp_ge (tgt := 44) hx hb dX3_cheapestWay_34 (by decide) (fun c11 => ?_) (fun c11 => ?_)
    · refine lv_iinc (v := 3) (lv' := [(5, .int 3), (6, .int (fCost v z 2 n)), (4, .int (fCost v z 0 n)), (3, .int 0), (0, .ref (a 0 0)), (1, .int (nI z)), (2, .int (n))]) hx hb dX3_cheapestWay_44 hl (k := 1) rfl (by decide) (by decide) rfl (fun ls hl => ?_)
      refine lv_goto (tgt := 14) hx hb dX3_cheapestWay_47 (by decide) ?_
      refine lv_iload hx hb dX3_cheapestWay_14 (lv_at hl 0 rfl) ?_
      refine lv_iconst (v := 3) hx hb dX3_cheapestWay_16 (by decide) ?_
      refine lv_icmp_ge (tgt := 50) hx hb dX3_cheapestWay_17 (by decide) (fun _ => ?_) (fun q => absurd (by decide) q)
      refine lv_iload_n hx hb dX3_cheapestWay_50 rfl (lv_at hl 3 rfl) ?_
      exact hret _ _ _ _ _ _ rfl ⟨by simp only [fBest, fB1, c7, c11, if_true, if_false, not_true_eq_false, not_false_eq_true, and_self, or_true, true_or, or_false, false_or, and_true, true_and, and_false, false_and, or_self, decide_eq_true_eq, Bool.false_eq_true, z10], rfl⟩ hH dX3_cheapestWay_51
    · refine lv_iload hx hb dX3_cheapestWay_37 (lv_at hl 1 rfl) ?_
      refine lv_istore_n (lv' := [(3, .int 2), (6, .int (fCost v z 2 n)), (5, .int 2), (4, .int (fCost v z 0 n)), (0, .ref (a 0 0)), (1, .int (nI z)), (2, .int (n))]) hx hb dX3_cheapestWay_39 rfl hl (by decide) rfl (fun ls hl => ?_)
      refine lv_iload hx hb dX3_cheapestWay_40 (lv_at hl 1 rfl) ?_
      refine lv_istore (lv' := [(4, .int (fCost v z 2 n)), (3, .int 2), (6, .int (fCost v z 2 n)), (5, .int 2), (0, .ref (a 0 0)), (1, .int (nI z)), (2, .int (n))]) hx hb dX3_cheapestWay_42 hl (by decide) rfl (fun ls hl => ?_)
      refine lv_iinc (v := 3) (lv' := [(5, .int 3), (4, .int (fCost v z 2 n)), (3, .int 2), (6, .int (fCost v z 2 n)), (0, .ref (a 0 0)), (1, .int (nI z)), (2, .int (n))]) hx hb dX3_cheapestWay_44 hl (k := 3) rfl (by decide) (by decide) rfl (fun ls hl => ?_)
      refine lv_goto (tgt := 14) hx hb dX3_cheapestWay_47 (by decide) ?_
      refine lv_iload hx hb dX3_cheapestWay_14 (lv_at hl 0 rfl) ?_
      refine lv_iconst (v := 3) hx hb dX3_cheapestWay_16 (by decide) ?_
      refine lv_icmp_ge (tgt := 50) hx hb dX3_cheapestWay_17 (by decide) (fun _ => ?_) (fun q => absurd (by decide) q)
      refine lv_iload_n hx hb dX3_cheapestWay_50 rfl (lv_at hl 2 rfl) ?_
      exact hret _ _ _ _ _ _ rfl ⟨by simp only [fBest, fB1, c7, c11, if_true, if_false, not_true_eq_false, not_false_eq_true, and_self, or_true, true_or, or_false, false_or, and_true, true_and, and_false, false_and, or_self, decide_eq_true_eq, Bool.false_eq_true, z10], rfl⟩ hH dX3_cheapestWay_51
  · refine lv_iload hx hb dX3_cheapestWay_37 (lv_at hl 1 rfl) ?_
    refine lv_istore_n (lv' := [(3, .int 1), (6, .int (fCost v z 1 n)), (5, .int 1), (4, .int (fCost v z 0 n)), (0, .ref (a 0 0)), (1, .int (nI z)), (2, .int (n))]) hx hb dX3_cheapestWay_39 rfl hl (by decide) rfl (fun ls hl => ?_)
    refine lv_iload hx hb dX3_cheapestWay_40 (lv_at hl 1 rfl) ?_
    refine lv_istore (lv' := [(4, .int (fCost v z 1 n)), (3, .int 1), (6, .int (fCost v z 1 n)), (5, .int 1), (0, .ref (a 0 0)), (1, .int (nI z)), (2, .int (n))]) hx hb dX3_cheapestWay_42 hl (by decide) rfl (fun ls hl => ?_)
    refine lv_iinc (v := 2) (lv' := [(5, .int 2), (4, .int (fCost v z 1 n)), (3, .int 1), (6, .int (fCost v z 1 n)), (0, .ref (a 0 0)), (1, .int (nI z)), (2, .int (n))]) hx hb dX3_cheapestWay_44 hl (k := 3) rfl (by decide) (by decide) rfl (fun ls hl => ?_)
    refine lv_goto (tgt := 14) hx hb dX3_cheapestWay_47 (by decide) ?_
    refine lv_iload hx hb dX3_cheapestWay_14 (lv_at hl 0 rfl) ?_
    refine lv_iconst (v := 3) hx hb dX3_cheapestWay_16 (by decide) ?_
    refine lv_icmp_ge (tgt := 50) hx hb dX3_cheapestWay_17 (by decide) (fun q => absurd q (by decide)) (fun _ => ?_)
    refine lv_aload_n hx hb dX3_cheapestWay_20 rfl (lv_at hl 4 rfl) ?_
    refine lv_iload_n hx hb dX3_cheapestWay_21 rfl (lv_at hl 5 rfl) ?_
    refine lv_iload hx hb dX3_cheapestWay_22 (lv_at hl 0 rfl) ?_
    refine lv_iload_n hx hb dX3_cheapestWay_24 rfl (lv_at hl 6 rfl) ?_
    refine z_callVi X hH (c_X3_priceBy l D k a g v (z) (by omega) 2 n) k_X3_85 (rv_X3 X hH (by omega)) [] rfl rfl hl.1 (Nat.le_of_ble_eq_true rfl) ⟨Nat.le_of_ble_eq_true rfl, Nat.le_of_ble_eq_true rfl⟩ ⟨Nat.le_refl _, Nat.le_refl _⟩ dX3_cheapestWay_25 (fun r12 g13 H locs h14 hH => ?_)
    rw [h14.2] at hH
    rw [h14.1]
    refine lv_istore (lv' := [(6, .int (fCost v z 2 n)), (5, .int 2), (4, .int (fCost v z 1 n)), (3, .int 1), (0, .ref (a 0 0)), (1, .int (nI z)), (2, .int (n))]) hx hb dX3_cheapestWay_28 hl (by decide) rfl (fun ls hl => ?_)
    refine lv_iload hx hb dX3_cheapestWay_30 (lv_at hl 0 rfl) ?_
    refine lv_iload hx hb dX3_cheapestWay_32 (lv_at hl 2 rfl) ?_
    refine i_icmp_ge (tgt := 44) hx hb dX3_cheapestWay_34 (by decide) (fun c15 => ?_) (fun c15 => ?_)
    · refine lv_iinc (v := 3) (lv' := [(5, .int 3), (6, .int (fCost v z 2 n)), (4, .int (fCost v z 1 n)), (3, .int 1), (0, .ref (a 0 0)), (1, .int (nI z)), (2, .int (n))]) hx hb dX3_cheapestWay_44 hl (k := 1) rfl (by decide) (by decide) rfl (fun ls hl => ?_)
      refine lv_goto (tgt := 14) hx hb dX3_cheapestWay_47 (by decide) ?_
      refine lv_iload hx hb dX3_cheapestWay_14 (lv_at hl 0 rfl) ?_
      refine lv_iconst (v := 3) hx hb dX3_cheapestWay_16 (by decide) ?_
      refine lv_icmp_ge (tgt := 50) hx hb dX3_cheapestWay_17 (by decide) (fun _ => ?_) (fun q => absurd (by decide) q)
      refine lv_iload_n hx hb dX3_cheapestWay_50 rfl (lv_at hl 3 rfl) ?_
      exact hret _ _ _ _ _ _ rfl ⟨by simp only [fBest, fB1, c7, c15, if_true, if_false, not_true_eq_false, not_false_eq_true, and_self, or_true, true_or, or_false, false_or, and_true, true_and, and_false, false_and, or_self, decide_eq_true_eq, Bool.false_eq_true, z10], rfl⟩ hH dX3_cheapestWay_51
    · refine lv_iload hx hb dX3_cheapestWay_37 (lv_at hl 1 rfl) ?_
      refine lv_istore_n (lv' := [(3, .int 2), (6, .int (fCost v z 2 n)), (5, .int 2), (4, .int (fCost v z 1 n)), (0, .ref (a 0 0)), (1, .int (nI z)), (2, .int (n))]) hx hb dX3_cheapestWay_39 rfl hl (by decide) rfl (fun ls hl => ?_)
      refine lv_iload hx hb dX3_cheapestWay_40 (lv_at hl 1 rfl) ?_
      refine lv_istore (lv' := [(4, .int (fCost v z 2 n)), (3, .int 2), (6, .int (fCost v z 2 n)), (5, .int 2), (0, .ref (a 0 0)), (1, .int (nI z)), (2, .int (n))]) hx hb dX3_cheapestWay_42 hl (by decide) rfl (fun ls hl => ?_)
      refine lv_iinc (v := 3) (lv' := [(5, .int 3), (4, .int (fCost v z 2 n)), (3, .int 2), (6, .int (fCost v z 2 n)), (0, .ref (a 0 0)), (1, .int (nI z)), (2, .int (n))]) hx hb dX3_cheapestWay_44 hl (k := 3) rfl (by decide) (by decide) rfl (fun ls hl => ?_)
      refine lv_goto (tgt := 14) hx hb dX3_cheapestWay_47 (by decide) ?_
      refine lv_iload hx hb dX3_cheapestWay_14 (lv_at hl 0 rfl) ?_
      refine lv_iconst (v := 3) hx hb dX3_cheapestWay_16 (by decide) ?_
      refine lv_icmp_ge (tgt := 50) hx hb dX3_cheapestWay_17 (by decide) (fun _ => ?_) (fun q => absurd (by decide) q)
      refine lv_iload_n hx hb dX3_cheapestWay_50 rfl (lv_at hl 2 rfl) ?_
      exact hret _ _ _ _ _ _ rfl ⟨by simp only [fBest, fB1, c7, c15, if_true, if_false, not_true_eq_false, not_false_eq_true, and_self, or_true, true_or, or_false, false_or, and_true, true_and, and_false, false_and, or_self, decide_eq_true_eq, Bool.false_eq_true, z10], rfl⟩ hH dX3_cheapestWay_51
set_option maxRecDepth 100000 in
set_option maxHeartbeats 4000000 in
theorem c_X3_rowsChangedTooMuch (l : Launch) (D : va_G) (k : Nat → ClassId) (a : Nat → Nat → Nat) (g : Mem) (v : V) (z : Nat) (hz : z < 12) : zI l yX3_rowsChangedTooMuch cX3_rowsChangedTooMuch 3 .boolean 1 21 D k a [.ref (a 0 0), .int (nI z)] (zUp g 0 v) (fun r g' => r = (if fChanged v z = true then 1 else 0) ∧ g' = (zUp g 0 v)) := by
  refine zI_of (own := RX3) (by decide +kernel) rfl (Nat.le_of_ble_eq_true rfl) ?_
  intro p e s m args below meth c X Q hret hH ls hl
  obtain ⟨hx, hb, hml, hown, hts⟩ := X.1
  have hl : lv_has ls 3 [(0, .ref (a 0 0)), (1, .int (nI z))] := hl
  have hH : zH D k a s (zUp g 0 v) s.heap [] := hH
  refine lv_aload_n hx hb dX3_rowsChangedTooMuch_0 rfl (lv_at hl 0 rfl) ?_
  refine gf_X3_plans X hH (by omega) q_121 dX3_rowsChangedTooMuch_1 ?_
  refine lv_iload_n hx hb dX3_rowsChangedTooMuch_4 rfl (lv_at hl 1 rfl) ?_
  refine ar_plans X hH (by omega) (z) (by omega) dX3_rowsChangedTooMuch_5 ?_
  refine gn_X1_rows X hH (by omega) q_85 dX3_rowsChangedTooMuch_6 ?_
  refine lv_istore_n (lv' := [(2, .int (v (13 + 11 * z + 10))), (0, .ref (a 0 0)), (1, .int (nI z))]) hx hb dX3_rowsChangedTooMuch_9 rfl hl (by decide) rfl (fun ls hl => ?_)
  refine lv_aload_n hx hb dX3_rowsChangedTooMuch_10 rfl (lv_at hl 1 rfl) ?_
  refine lv_iload_n hx hb dX3_rowsChangedTooMuch_11 rfl (lv_at hl 2 rfl) ?_
  refine z_callVr X hH (c_X3_tableUnder l D k a (zUp g 0 v) (z) (by omega)) k_X3_64 (rv_X3 X hH (by omega)) [] rfl rfl hl.1 (Nat.le_of_ble_eq_true rfl) ⟨Nat.le_of_ble_eq_true rfl, Nat.le_of_ble_eq_true rfl⟩ ⟨Nat.le_refl _, Nat.le_refl _⟩ dX3_rowsChangedTooMuch_12 (fun H locs hH => ?_)
  refine gn_X4_rows X hH (by omega) q_38 dX3_rowsChangedTooMuch_15 ?_
  refine lv_iload_n hx hb dX3_rowsChangedTooMuch_18 rfl (lv_at hl 0 rfl) ?_
  refine lv_isub hx hb dX3_rowsChangedTooMuch_19 ?_
  refine z_abs X q_290 hl.1 (Nat.le_of_ble_eq_true rfl) (Nat.le_of_ble_eq_true rfl) ⟨Nat.le_refl _, Nat.le_refl _⟩ dX3_rowsChangedTooMuch_20 ?_
  refine lv_iload_n hx hb dX3_rowsChangedTooMuch_23 rfl (lv_at hl 0 rfl) ?_
  refine lv_iconst (v := 2) hx hb dX3_rowsChangedTooMuch_24 (by decide) ?_
  refine lv_idiv hx hb dX3_rowsChangedTooMuch_25 (by decide) ?_
  refine i_icmp_le (tgt := 33) hx hb dX3_rowsChangedTooMuch_26 (by decide) (fun c1 => ?_) (fun c1 => ?_)
  · refine lv_iconst (v := 0) hx hb dX3_rowsChangedTooMuch_33 (by decide) ?_
    exact hret _ _ _ _ _ _ rfl ⟨by simp only [fChanged, fAbs, c1, if_true, if_false, not_true_eq_false, not_false_eq_true, and_self, or_true, true_or, or_false, false_or, and_true, true_and, and_false, false_and, or_self, decide_eq_true_eq, Bool.false_eq_true, z10], rfl⟩ hH dX3_rowsChangedTooMuch_34
  · refine lv_iconst (v := 1) hx hb dX3_rowsChangedTooMuch_29 (by decide) ?_
    refine lv_goto (tgt := 34) hx hb dX3_rowsChangedTooMuch_30 (by decide) ?_
    exact hret _ _ _ _ _ _ rfl ⟨by simp only [fChanged, fAbs, c1, if_true, if_false, not_true_eq_false, not_false_eq_true, and_self, or_true, true_or, or_false, false_or, and_true, true_and, and_false, false_and, or_self, decide_eq_true_eq, Bool.false_eq_true, z10], rfl⟩ hH dX3_rowsChangedTooMuch_34
set_option maxRecDepth 100000 in
set_option maxHeartbeats 4000000 in
theorem c_X3_isTooOld (l : Launch) (D : va_G) (k : Nat → ClassId) (a : Nat → Nat → Nat) (g : Mem) (v : V) (z : Nat) (hz : z < 12) : zI l yX3_isTooOld cX3_isTooOld 2 .boolean 0 0 D k a [.ref (a 0 0), .int (nI z)] (zUp g 0 v) (fun r g' => r = (if fOld v z = true then 1 else 0) ∧ g' = (zUp g 0 v)) := by
  refine zI_of (own := RX3) (by decide +kernel) rfl (Nat.le_of_ble_eq_true rfl) ?_
  intro p e s m args below meth c X Q hret hH ls hl
  obtain ⟨hx, hb, hml, hown, hts⟩ := X.1
  have hl : lv_has ls 2 [(0, .ref (a 0 0)), (1, .int (nI z))] := hl
  have hH : zH D k a s (zUp g 0 v) s.heap [] := hH
  refine lv_aload_n hx hb dX3_isTooOld_0 rfl (lv_at hl 0 rfl) ?_
  refine gn_X3_questions X hH q_125 dX3_isTooOld_1 ?_
  refine lv_aload_n hx hb dX3_isTooOld_4 rfl (lv_at hl 0 rfl) ?_
  refine gf_X3_plans X hH (by omega) q_121 dX3_isTooOld_5 ?_
  refine lv_iload_n hx hb dX3_isTooOld_8 rfl (lv_at hl 1 rfl) ?_
  refine ar_plans X hH (by omega) (z) (by omega) dX3_isTooOld_9 ?_
  refine gn_X1_madeAt X hH (by omega) q_91 dX3_isTooOld_10 ?_
  refine lv_isub hx hb dX3_isTooOld_13 ?_
  refine lv_aload_n hx hb dX3_isTooOld_14 rfl (lv_at hl 0 rfl) ?_
  refine gf_X3_settings X hH (by omega) q_123 dX3_isTooOld_15 ?_
  refine lv_iconst (v := 2) hx hb dX3_isTooOld_18 (by decide) ?_
  refine an_sets X hH (2) (by omega) dX3_isTooOld_19 ?_
  refine i_icmp_le (tgt := 27) hx hb dX3_isTooOld_20 (by decide) (fun c1 => ?_) (fun c1 => ?_)
  · refine lv_iconst (v := 0) hx hb dX3_isTooOld_27 (by decide) ?_
    exact hret _ _ _ _ _ _ rfl ⟨by simp only [fOld, c1, if_true, if_false, not_true_eq_false, not_false_eq_true, and_self, or_true, true_or, or_false, false_or, and_true, true_and, and_false, false_and, or_self, decide_eq_true_eq, Bool.false_eq_true, z10], rfl⟩ hH dX3_isTooOld_28
  · refine lv_iconst (v := 1) hx hb dX3_isTooOld_23 (by decide) ?_
    refine lv_goto (tgt := 28) hx hb dX3_isTooOld_24 (by decide) ?_
    exact hret _ _ _ _ _ _ rfl ⟨by simp only [fOld, c1, if_true, if_false, not_true_eq_false, not_false_eq_true, and_self, or_true, true_or, or_false, false_or, and_true, true_and, and_false, false_and, or_self, decide_eq_true_eq, Bool.false_eq_true, z10], rfl⟩ hH dX3_isTooOld_28
set_option maxRecDepth 100000 in
set_option maxHeartbeats 4000000 in
theorem c_X3_isStale (l : Launch) (D : va_G) (k : Nat → ClassId) (a : Nat → Nat → Nat) (g : Mem) (v : V) (z : Nat) (hz : z < 12) : zI l yX3_isStale cX3_isStale 2 .boolean 2 43 D k a [.ref (a 0 0), .int (nI z)] (zUp g 0 v) (fun r g' => r = (if fChanged v z = true ∨ fOld v z = true then 1 else 0) ∧ g' = (zUp g 0 v)) := by
  refine zI_of (own := RX3) (by decide +kernel) rfl (Nat.le_of_ble_eq_true rfl) ?_
  intro p e s m args below meth c X Q hret hH ls hl
  obtain ⟨hx, hb, hml, hown, hts⟩ := X.1
  have hl : lv_has ls 2 [(0, .ref (a 0 0)), (1, .int (nI z))] := hl
  have hH : zH D k a s (zUp g 0 v) s.heap [] := hH
  refine lv_aload_n hx hb dX3_isStale_0 rfl (lv_at hl 0 rfl) ?_
  refine lv_iload_n hx hb dX3_isStale_1 rfl (lv_at hl 1 rfl) ?_
  refine z_callVi X hH (c_X3_rowsChangedTooMuch l D k a g v (z) (by omega)) k_X3_96 (rv_X3 X hH (by omega)) [] rfl rfl hl.1 (Nat.le_of_ble_eq_true rfl) ⟨Nat.le_of_ble_eq_true rfl, Nat.le_of_ble_eq_true rfl⟩ ⟨Nat.le_refl _, Nat.le_refl _⟩ dX3_isStale_2 (fun r1 g2 H locs h3 hH => ?_)
  rw [h3.2] at hH
  rw [h3.1]
  refine b_ifne (P := fChanged v z = true) (tgt := 16) hx hb dX3_isStale_5 (by decide) (fun c4 => ?_) (fun c4 => ?_)
  · refine lv_iconst (v := 1) hx hb dX3_isStale_16 (by decide) ?_
    refine lv_goto (tgt := 21) hx hb dX3_isStale_17 (by decide) ?_
    exact hret _ _ _ _ _ _ rfl ⟨by simp only [c4, if_true, if_false, not_true_eq_false, not_false_eq_true, and_self, or_true, true_or, or_false, false_or, and_true, true_and, and_false, false_and, or_self, decide_eq_true_eq, Bool.false_eq_true, z10], rfl⟩ hH dX3_isStale_21
  · refine lv_aload_n hx hb dX3_isStale_8 rfl (lv_at hl 0 rfl) ?_
    refine lv_iload_n hx hb dX3_isStale_9 rfl (lv_at hl 1 rfl) ?_
    refine z_callVi X hH (c_X3_isTooOld l D k a g v (z) (by omega)) k_X3_100 (rv_X3 X hH (by omega)) [] rfl rfl hl.1 (Nat.le_of_ble_eq_true rfl) ⟨Nat.le_of_ble_eq_true rfl, Nat.le_of_ble_eq_true rfl⟩ ⟨Nat.le_refl _, Nat.le_refl _⟩ dX3_isStale_10 (fun r5 g6 H locs h7 hH => ?_)
    rw [h7.2] at hH
    rw [h7.1]
    refine b_ifeq (P := fOld v z = true) (tgt := 20) hx hb dX3_isStale_13 (by decide) (fun c8 => ?_) (fun c8 => ?_)
    · refine lv_iconst (v := 0) hx hb dX3_isStale_20 (by decide) ?_
      exact hret _ _ _ _ _ _ rfl ⟨by simp only [c4, c8, if_true, if_false, not_true_eq_false, not_false_eq_true, and_self, or_true, true_or, or_false, false_or, and_true, true_and, and_false, false_and, or_self, decide_eq_true_eq, Bool.false_eq_true, z10], rfl⟩ hH dX3_isStale_21
    · refine lv_iconst (v := 1) hx hb dX3_isStale_16 (by decide) ?_
      refine lv_goto (tgt := 21) hx hb dX3_isStale_17 (by decide) ?_
      exact hret _ _ _ _ _ _ rfl ⟨by simp only [c4, c8, if_true, if_false, not_true_eq_false, not_false_eq_true, and_self, or_true, true_or, or_false, false_or, and_true, true_and, and_false, false_and, or_self, decide_eq_true_eq, Bool.false_eq_true, z10], rfl⟩ hH dX3_isStale_21
set_option maxRecDepth 100000 in
set_option maxHeartbeats 4000000 in
theorem c_X3_isTooDear (l : Launch) (D : va_G) (k : Nat → ClassId) (a : Nat → Nat → Nat) (g : Mem) (v : V) (z : Nat) (hz : z < 12) (x : Int32) : zI l yX3_isTooDear cX3_isTooDear 3 .boolean 0 0 D k a [.ref (a 0 0), .int (nI z), .int (x)] (zUp g 0 v) (fun r g' => r = (if fDear v z x = true then 1 else 0) ∧ g' = (zUp g 0 v)) := by
  refine zI_of (own := RX3) (by decide +kernel) rfl (Nat.le_of_ble_eq_true rfl) ?_
  intro p e s m args below meth c X Q hret hH ls hl
  obtain ⟨hx, hb, hml, hown, hts⟩ := X.1
  have hl : lv_has ls 3 [(0, .ref (a 0 0)), (1, .int (nI z)), (2, .int (x))] := hl
  have hH : zH D k a s (zUp g 0 v) s.heap [] := hH
  refine lv_iload_n hx hb dX3_isTooDear_0 rfl (lv_at hl 2 rfl) ?_
  refine lv_aload_n hx hb dX3_isTooDear_1 rfl (lv_at hl 0 rfl) ?_
  refine gf_X3_settings X hH (by omega) q_123 dX3_isTooDear_2 ?_
  refine lv_iconst (v := 4) hx hb dX3_isTooDear_5 (by decide) ?_
  refine an_sets X hH (4) (by omega) dX3_isTooDear_6 ?_
  refine lv_aload_n hx hb dX3_isTooDear_7 rfl (lv_at hl 0 rfl) ?_
  refine gf_X3_plans X hH (by omega) q_121 dX3_isTooDear_8 ?_
  refine lv_iload_n hx hb dX3_isTooDear_11 rfl (lv_at hl 1 rfl) ?_
  refine ar_plans X hH (by omega) (z) (by omega) dX3_isTooDear_12 ?_
  refine gn_X1_guess X hH (by omega) q_82 dX3_isTooDear_13 ?_
  refine lv_imul hx hb dX3_isTooDear_16 ?_
  refine i_icmp_le (tgt := 24) hx hb dX3_isTooDear_17 (by decide) (fun c1 => ?_) (fun c1 => ?_)
  · refine lv_iconst (v := 0) hx hb dX3_isTooDear_24 (by decide) ?_
    exact hret _ _ _ _ _ _ rfl ⟨by simp only [fDear, c1, if_true, if_false, not_true_eq_false, not_false_eq_true, and_self, or_true, true_or, or_false, false_or, and_true, true_and, and_false, false_and, or_self, decide_eq_true_eq, Bool.false_eq_true, z10], rfl⟩ hH dX3_isTooDear_25
  · refine lv_iconst (v := 1) hx hb dX3_isTooDear_20 (by decide) ?_
    refine lv_goto (tgt := 25) hx hb dX3_isTooDear_21 (by decide) ?_
    exact hret _ _ _ _ _ _ rfl ⟨by simp only [fDear, c1, if_true, if_false, not_true_eq_false, not_false_eq_true, and_self, or_true, true_or, or_false, false_or, and_true, true_and, and_false, false_and, or_self, decide_eq_true_eq, Bool.false_eq_true, z10], rfl⟩ hH dX3_isTooDear_25
set_option maxRecDepth 100000 in
set_option maxHeartbeats 4000000 in
theorem c_X3_whyNotUsed (l : Launch) (D : va_G) (k : Nat → ClassId) (a : Nat → Nat → Nat) (g : Mem) (v : V) (z : Nat) (hz : z < 12) (n : Int32) : zI l yX3_whyNotUsed cX3_whyNotUsed 4 .int 2 43 D k a [.ref (a 0 0), .int (nI z), .int (n)] (zUp g 0 v) (fun r g' => r = (fWhy v z n) ∧ g' = (zUp g 0 v)) := by
  refine zI_of (own := RX3) (by decide +kernel) rfl (Nat.le_of_ble_eq_true rfl) ?_
  intro p e s m args below meth c X Q hret hH ls hl
  obtain ⟨hx, hb, hml, hown, hts⟩ := X.1
  have hl : lv_has ls 4 [(0, .ref (a 0 0)), (1, .int (nI z)), (2, .int (n))] := hl
  have hH : zH D k a s (zUp g 0 v) s.heap [] := hH
  refine lv_aload_n hx hb dX3_whyNotUsed_0 rfl (lv_at hl 0 rfl) ?_
  refine gf_X3_plans X hH (by omega) q_121 dX3_whyNotUsed_1 ?_
  refine lv_iload_n hx hb dX3_whyNotUsed_4 rfl (lv_at hl 1 rfl) ?_
  refine ar_plans X hH (by omega) (z) (by omega) dX3_whyNotUsed_5 ?_
  refine lv_astore_n (lv' := [(3, .ref (a 0 (8 + z))), (0, .ref (a 0 0)), (1, .int (nI z)), (2, .int (n))]) hx hb dX3_whyNotUsed_6 rfl hl (by decide) rfl (fun ls hl => ?_)
  refine lv_aload_n hx hb dX3_whyNotUsed_7 rfl (lv_at hl 0 rfl) ?_
  refine gn_X1_kept X hH (by omega) q_65 dX3_whyNotUsed_8 ?_
  refine lv_if_ne (tgt := 16) hx hb dX3_whyNotUsed_11 (by decide) (fun c1 => ?_) (fun c1 => ?_)
  · refine lv_iload_n hx hb dX3_whyNotUsed_16 rfl (lv_at hl 3 rfl) ?_
    refine lv_aload_n hx hb dX3_whyNotUsed_17 rfl (lv_at hl 0 rfl) ?_
    refine gn_X1_least X hH (by omega) q_73 dX3_whyNotUsed_18 ?_
    refine i_icmp_ge (tgt := 26) hx hb dX3_whyNotUsed_21 (by decide) (fun c2 => ?_) (fun c2 => ?_)
    · refine lv_iload_n hx hb dX3_whyNotUsed_26 rfl (lv_at hl 3 rfl) ?_
      refine lv_aload_n hx hb dX3_whyNotUsed_27 rfl (lv_at hl 0 rfl) ?_
      refine gn_X1_most X hH (by omega) q_76 dX3_whyNotUsed_28 ?_
      refine i_icmp_le (tgt := 36) hx hb dX3_whyNotUsed_31 (by decide) (fun c3 => ?_) (fun c3 => ?_)
      · refine lv_aload_n hx hb dX3_whyNotUsed_36 rfl (lv_at hl 1 rfl) ?_
        refine lv_iload_n hx hb dX3_whyNotUsed_37 rfl (lv_at hl 2 rfl) ?_
        refine z_callVi X hH (c_X3_rowsChangedTooMuch l D k a g v (z) (by omega)) k_X3_96 (rv_X3 X hH (by omega)) [] rfl rfl hl.1 (Nat.le_of_ble_eq_true rfl) ⟨Nat.le_of_ble_eq_true rfl, Nat.le_of_ble_eq_true rfl⟩ ⟨Nat.le_refl _, Nat.le_refl _⟩ dX3_whyNotUsed_38 (fun r4 g5 H locs h6 hH => ?_)
        rw [h6.2] at hH
        rw [h6.1]
        refine b_ifeq (P := fChanged v z = true) (tgt := 46) hx hb dX3_whyNotUsed_41 (by decide) (fun c7 => ?_) (fun c7 => ?_)
        · refine lv_aload_n hx hb dX3_whyNotUsed_46 rfl (lv_at hl 1 rfl) ?_
          refine lv_iload_n hx hb dX3_whyNotUsed_47 rfl (lv_at hl 2 rfl) ?_
          refine z_callVi X hH (c_X3_isTooOld l D k a g v (z) (by omega)) k_X3_100 (rv_X3 X hH (by omega)) [] rfl rfl hl.1 (Nat.le_of_ble_eq_true rfl) ⟨Nat.le_of_ble_eq_true rfl, Nat.le_of_ble_eq_true rfl⟩ ⟨Nat.le_refl _, Nat.le_refl _⟩ dX3_whyNotUsed_48 (fun r8 g9 H locs h10 hH => ?_)
          rw [h10.2] at hH
          rw [h10.1]
          refine b_ifeq (P := fOld v z = true) (tgt := 58) hx hb dX3_whyNotUsed_51 (by decide) (fun c11 => ?_) (fun c11 => ?_)
          · refine lv_iconst (v := 0) hx hb dX3_whyNotUsed_58 (by decide) ?_
            exact hret _ _ _ _ _ _ rfl ⟨by simp only [fWhy, c1, c2, c3, c7, c11, if_true, if_false, not_true_eq_false, not_false_eq_true, and_self, or_true, true_or, or_false, false_or, and_true, true_and, and_false, false_and, or_self, decide_eq_true_eq, Bool.false_eq_true, z10], rfl⟩ hH dX3_whyNotUsed_59
          · refine lv_iconst (v := 5) hx hb dX3_whyNotUsed_54 (by decide) ?_
            refine lv_goto (tgt := 59) hx hb dX3_whyNotUsed_55 (by decide) ?_
            exact hret _ _ _ _ _ _ rfl ⟨by simp only [fWhy, c1, c2, c3, c7, c11, if_true, if_false, not_true_eq_false, not_false_eq_true, and_self, or_true, true_or, or_false, false_or, and_true, true_and, and_false, false_and, or_self, decide_eq_true_eq, Bool.false_eq_true, z10], rfl⟩ hH dX3_whyNotUsed_59
        · refine lv_iconst (v := 4) hx hb dX3_whyNotUsed_44 (by decide) ?_
          exact hret _ _ _ _ _ _ rfl ⟨by simp only [fWhy, c1, c2, c3, c7, if_true, if_false, not_true_eq_false, not_false_eq_true, and_self, or_true, true_or, or_false, false_or, and_true, true_and, and_false, false_and, or_self, decide_eq_true_eq, Bool.false_eq_true, z10], rfl⟩ hH dX3_whyNotUsed_45
      · refine lv_iconst (v := 3) hx hb dX3_whyNotUsed_34 (by decide) ?_
        exact hret _ _ _ _ _ _ rfl ⟨by simp only [fWhy, c1, c2, c3, if_true, if_false, not_true_eq_false, not_false_eq_true, and_self, or_true, true_or, or_false, false_or, and_true, true_and, and_false, false_and, or_self, decide_eq_true_eq, Bool.false_eq_true, z10], rfl⟩ hH dX3_whyNotUsed_35
    · refine lv_iconst (v := 2) hx hb dX3_whyNotUsed_24 (by decide) ?_
      exact hret _ _ _ _ _ _ rfl ⟨by simp only [fWhy, c1, c2, if_true, if_false, not_true_eq_false, not_false_eq_true, and_self, or_true, true_or, or_false, false_or, and_true, true_and, and_false, false_and, or_self, decide_eq_true_eq, Bool.false_eq_true, z10], rfl⟩ hH dX3_whyNotUsed_25
  · refine lv_iconst (v := 1) hx hb dX3_whyNotUsed_14 (by decide) ?_
    exact hret _ _ _ _ _ _ rfl ⟨by simp only [fWhy, c1, if_true, if_false, not_true_eq_false, not_false_eq_true, and_self, or_true, true_or, or_false, false_or, and_true, true_and, and_false, false_and, or_self, decide_eq_true_eq, Bool.false_eq_true, z10], rfl⟩ hH dX3_whyNotUsed_15
end
section
set_option maxRecDepth 100000 in
set_option maxHeartbeats 4000000 in
theorem c_X3_keptPlans (l : Launch) (D : va_G) (k : Nat → ClassId) (a : Nat → Nat → Nat) (g : Mem) (v : V) : zI l yX3_keptPlans cX3_keptPlans 3 .int 0 0 D k a [.ref (a 0 0)] (zUp g 0 v) (fun r g' => r = (fK v 12) ∧ g' = (zUp g 0 v)) := by
  refine zI_of (own := RX3) (by decide +kernel) rfl (Nat.le_of_ble_eq_true rfl) ?_
  intro p e s m args below meth c X Q hret hH ls hl
  obtain ⟨hx, hb, hml, hown, hts⟩ := X.1
  have hl : lv_has ls 3 [(0, .ref (a 0 0))] := hl
  have hH : zH D k a s (zUp g 0 v) s.heap [] := hH
  refine lv_iconst (v := 0) hx hb dX3_keptPlans_0 (by decide) ?_
  refine lv_istore_n (lv' := [(1, .int 0), (0, .ref (a 0 0))]) hx hb dX3_keptPlans_1 rfl hl (by decide) rfl (fun ls hl => ?_)
  refine lv_iconst (v := 0) hx hb dX3_keptPlans_2 (by decide) ?_
  refine lv_istore_n (lv' := [(2, .int 0), (1, .int 0), (0, .ref (a 0 0))]) hx hb dX3_keptPlans_3 rfl hl (by decide) rfl (fun ls hl => ?_)
  have Lp4 : ∀ (jx i : Nat), i + jx = 12 → ∀ (H : Heap) (locs : List Loc) (ls : Array Slot), zH D k a s (zUp g 0 v) H locs → lv_has ls 3 [(2, .int (nI i)), (1, .int (fK v i)), (0, .ref (a 0 0))] → W p l e (zRoom 0 0) s m args below meth c H locs 0 0 Q (F0 m 4 ls []) := by
    intro jx
    induction jx with
    | zero =>
      intro i hix H locs ls hH hl
      obtain rfl : i = 12 := by omega
      refine lv_iload_n hx hb dX3_keptPlans_4 rfl (lv_at hl 0 rfl) ?_
      refine lv_bipush (v := 12) hx hb dX3_keptPlans_5 (by decide) ?_
      refine n_icmp_ge (A := 12) (B := 12) (tgt := 31) hx hb (by omega) (by omega) dX3_keptPlans_7 (by decide) (fun c1 => ?_) (fun q => absurd q (by omega))
      refine lv_iload_n hx hb dX3_keptPlans_31 rfl (lv_at hl 1 rfl) ?_
      exact hret _ _ _ _ _ _ rfl ⟨by simp only [c1, if_true, if_false, not_true_eq_false, not_false_eq_true, and_self, or_true, true_or, or_false, false_or, and_true, true_and, and_false, false_and, or_self, decide_eq_true_eq, Bool.false_eq_true, z10], rfl⟩ hH dX3_keptPlans_32
    | succ jx ih =>
      intro i hix H locs ls hH hl
      have hi4 : i < 12 := by omega
      refine lv_iload_n hx hb dX3_keptPlans_4 rfl (lv_at hl 0 rfl) ?_
      refine lv_bipush (v := 12) hx hb dX3_keptPlans_5 (by decide) ?_
      refine n_icmp_ge (A := i) (B := 12) (tgt := 31) hx hb (by omega) (by omega) dX3_keptPlans_7 (by decide) (fun q => absurd q (by omega)) (fun c2 => ?_)
      refine lv_aload_n hx hb dX3_keptPlans_10 rfl (lv_at hl 2 rfl) ?_
      refine gf_X3_plans X hH (by omega) q_121 dX3_keptPlans_11 ?_
      refine lv_iload_n hx hb dX3_keptPlans_14 rfl (lv_at hl 0 rfl) ?_
      refine ar_plans X hH (by omega) (i) (by omega) dX3_keptPlans_15 ?_
      refine gn_X1_kept X hH (by omega) q_65 dX3_keptPlans_16 ?_
      refine lv_if_eq (tgt := 25) hx hb dX3_keptPlans_19 (by decide) (fun c3 => ?_) (fun c3 => ?_)
      · refine lv_iinc (v := nI (i + 1)) (lv' := [(2, .int (nI (i + 1))), (1, .int (fK v i)), (0, .ref (a 0 0))]) hx hb dX3_keptPlans_25 hl (k := 0) rfl (z_inc1 _) (by decide) rfl (fun ls hl => ?_)
        refine lv_goto (tgt := 4) hx hb dX3_keptPlans_28 (by decide) ?_
        refine ih (i + 1) (by omega) _ _ _ ?_ ?_
        · exact hH
        · rw [show (fK v (i + 1) : Int32) = fK v i from by simp only [fK, c2, c3, if_true, if_false, or_true, true_or, or_false, false_or, not_true_eq_false, not_false_eq_true]]; exact lv_sub hl [0, 1, 2] rfl
      · refine lv_iinc (v := (fK v i) + 1) (lv' := [(1, .int ((fK v i) + 1)), (2, .int (nI i)), (0, .ref (a 0 0))]) hx hb dX3_keptPlans_22 hl (k := 1) rfl (z_incI _) (by decide) rfl (fun ls hl => ?_)
        refine lv_iinc (v := nI (i + 1)) (lv' := [(2, .int (nI (i + 1))), (1, .int ((fK v i) + 1)), (0, .ref (a 0 0))]) hx hb dX3_keptPlans_25 hl (k := 1) rfl (z_inc1 _) (by decide) rfl (fun ls hl => ?_)
        refine lv_goto (tgt := 4) hx hb dX3_keptPlans_28 (by decide) ?_
        refine ih (i + 1) (by omega) _ _ _ ?_ ?_
        · exact hH
        · rw [show (fK v (i + 1) : Int32) = (fK v i) + 1 from by simp only [fK, c2, c3, if_true, if_false, or_true, true_or, or_false, false_or, not_true_eq_false, not_false_eq_true]]; exact lv_sub hl [0, 1, 2] rfl
  refine Lp4 (12) 0 (by omega) _ _ _ ?_ ?_
  · exact hH
  · rw [show (nI 0 : Int32) = 0 from by rfl, show (fK v 0 : Int32) = 0 from by rfl]; exact lv_sub hl [0, 1, 2] rfl
set_option maxRecDepth 100000 in
set_option maxHeartbeats 4000000 in
theorem c_X3_pinnedPlans (l : Launch) (D : va_G) (k : Nat → ClassId) (a : Nat → Nat → Nat) (g : Mem) (v : V) : zI l yX3_pinnedPlans cX3_pinnedPlans 3 .int 0 0 D k a [.ref (a 0 0)] (zUp g 0 v) (fun r g' => r = (fP v 12) ∧ g' = (zUp g 0 v)) := by
  refine zI_of (own := RX3) (by decide +kernel) rfl (Nat.le_of_ble_eq_true rfl) ?_
  intro p e s m args below meth c X Q hret hH ls hl
  obtain ⟨hx, hb, hml, hown, hts⟩ := X.1
  have hl : lv_has ls 3 [(0, .ref (a 0 0))] := hl
  have hH : zH D k a s (zUp g 0 v) s.heap [] := hH
  refine lv_iconst (v := 0) hx hb dX3_pinnedPlans_0 (by decide) ?_
  refine lv_istore_n (lv' := [(1, .int 0), (0, .ref (a 0 0))]) hx hb dX3_pinnedPlans_1 rfl hl (by decide) rfl (fun ls hl => ?_)
  refine lv_iconst (v := 0) hx hb dX3_pinnedPlans_2 (by decide) ?_
  refine lv_istore_n (lv' := [(2, .int 0), (1, .int 0), (0, .ref (a 0 0))]) hx hb dX3_pinnedPlans_3 rfl hl (by decide) rfl (fun ls hl => ?_)
  have Lp4 : ∀ (jx i : Nat), i + jx = 12 → ∀ (H : Heap) (locs : List Loc) (ls : Array Slot), zH D k a s (zUp g 0 v) H locs → lv_has ls 3 [(2, .int (nI i)), (1, .int (fP v i)), (0, .ref (a 0 0))] → W p l e (zRoom 0 0) s m args below meth c H locs 0 0 Q (F0 m 4 ls []) := by
    intro jx
    induction jx with
    | zero =>
      intro i hix H locs ls hH hl
      obtain rfl : i = 12 := by omega
      refine lv_iload_n hx hb dX3_pinnedPlans_4 rfl (lv_at hl 0 rfl) ?_
      refine lv_bipush (v := 12) hx hb dX3_pinnedPlans_5 (by decide) ?_
      refine n_icmp_ge (A := 12) (B := 12) (tgt := 43) hx hb (by omega) (by omega) dX3_pinnedPlans_7 (by decide) (fun c1 => ?_) (fun q => absurd q (by omega))
      refine lv_iload_n hx hb dX3_pinnedPlans_43 rfl (lv_at hl 1 rfl) ?_
      exact hret _ _ _ _ _ _ rfl ⟨by simp only [c1, if_true, if_false, not_true_eq_false, not_false_eq_true, and_self, or_true, true_or, or_false, false_or, and_true, true_and, and_false, false_and, or_self, decide_eq_true_eq, Bool.false_eq_true, z10], rfl⟩ hH dX3_pinnedPlans_44
    | succ jx ih =>
      intro i hix H locs ls hH hl
      have hi4 : i < 12 := by omega
      refine lv_iload_n hx hb dX3_pinnedPlans_4 rfl (lv_at hl 0 rfl) ?_
      refine lv_bipush (v := 12) hx hb dX3_pinnedPlans_5 (by decide) ?_
      refine n_icmp_ge (A := i) (B := 12) (tgt := 43) hx hb (by omega) (by omega) dX3_pinnedPlans_7 (by decide) (fun q => absurd q (by omega)) (fun c2 => ?_)
      refine lv_aload_n hx hb dX3_pinnedPlans_10 rfl (lv_at hl 2 rfl) ?_
      refine gf_X3_plans X hH (by omega) q_121 dX3_pinnedPlans_11 ?_
      refine lv_iload_n hx hb dX3_pinnedPlans_14 rfl (lv_at hl 0 rfl) ?_
      refine ar_plans X hH (by omega) (i) (by omega) dX3_pinnedPlans_15 ?_
      refine gn_X1_kept X hH (by omega) q_65 dX3_pinnedPlans_16 ?_
      refine lv_if_eq (tgt := 37) hx hb dX3_pinnedPlans_19 (by decide) (fun c3 => ?_) (fun c3 => ?_)
      · refine lv_iinc (v := nI (i + 1)) (lv' := [(2, .int (nI (i + 1))), (1, .int (fP v i)), (0, .ref (a 0 0))]) hx hb dX3_pinnedPlans_37 hl (k := 0) rfl (z_inc1 _) (by decide) rfl (fun ls hl => ?_)
        refine lv_goto (tgt := 4) hx hb dX3_pinnedPlans_40 (by decide) ?_
        refine ih (i + 1) (by omega) _ _ _ ?_ ?_
        · exact hH
        · rw [show (fP v (i + 1) : Int32) = fP v i from by simp only [fP, c2, c3, if_true, if_false, or_true, true_or, or_false, false_or, not_true_eq_false, not_false_eq_true]]; exact lv_sub hl [0, 1, 2] rfl
      · refine lv_aload_n hx hb dX3_pinnedPlans_22 rfl (lv_at hl 2 rfl) ?_
        refine gf_X3_plans X hH (by omega) q_121 dX3_pinnedPlans_23 ?_
        refine lv_iload_n hx hb dX3_pinnedPlans_26 rfl (lv_at hl 0 rfl) ?_
        refine ar_plans X hH (by omega) (i) (by omega) dX3_pinnedPlans_27 ?_
        refine gn_X1_pinned X hH (by omega) q_68 dX3_pinnedPlans_28 ?_
        refine lv_if_eq (tgt := 37) hx hb dX3_pinnedPlans_31 (by decide) (fun c4 => ?_) (fun c4 => ?_)
        · refine lv_iinc (v := nI (i + 1)) (lv' := [(2, .int (nI (i + 1))), (1, .int (fP v i)), (0, .ref (a 0 0))]) hx hb dX3_pinnedPlans_37 hl (k := 0) rfl (z_inc1 _) (by decide) rfl (fun ls hl => ?_)
          refine lv_goto (tgt := 4) hx hb dX3_pinnedPlans_40 (by decide) ?_
          refine ih (i + 1) (by omega) _ _ _ ?_ ?_
          · exact hH
          · rw [show (fP v (i + 1) : Int32) = fP v i from by simp only [fP, c2, c3, c4, if_true, if_false, or_true, true_or, or_false, false_or, not_true_eq_false, not_false_eq_true]]; exact lv_sub hl [0, 1, 2] rfl
        · refine lv_iinc (v := (fP v i) + 1) (lv' := [(1, .int ((fP v i) + 1)), (2, .int (nI i)), (0, .ref (a 0 0))]) hx hb dX3_pinnedPlans_34 hl (k := 1) rfl (z_incI _) (by decide) rfl (fun ls hl => ?_)
          refine lv_iinc (v := nI (i + 1)) (lv' := [(2, .int (nI (i + 1))), (1, .int ((fP v i) + 1)), (0, .ref (a 0 0))]) hx hb dX3_pinnedPlans_37 hl (k := 1) rfl (z_inc1 _) (by decide) rfl (fun ls hl => ?_)
          refine lv_goto (tgt := 4) hx hb dX3_pinnedPlans_40 (by decide) ?_
          refine ih (i + 1) (by omega) _ _ _ ?_ ?_
          · exact hH
          · rw [show (fP v (i + 1) : Int32) = (fP v i) + 1 from by simp only [fP, c2, c3, c4, if_true, if_false, or_true, true_or, or_false, false_or, not_true_eq_false, not_false_eq_true]]; exact lv_sub hl [0, 1, 2] rfl
  refine Lp4 (12) 0 (by omega) _ _ _ ?_ ?_
  · exact hH
  · rw [show (nI 0 : Int32) = 0 from by rfl, show (fP v 0 : Int32) = 0 from by rfl]; exact lv_sub hl [0, 1, 2] rfl
set_option maxRecDepth 100000 in
set_option maxHeartbeats 4000000 in
theorem c_X3_stalePlans (l : Launch) (D : va_G) (k : Nat → ClassId) (a : Nat → Nat → Nat) (g : Mem) (v : V) : zI l yX3_stalePlans cX3_stalePlans 3 .int 3 64 D k a [.ref (a 0 0)] (zUp g 0 v) (fun r g' => r = (fS v 12) ∧ g' = (zUp g 0 v)) := by
  refine zI_of (own := RX3) (by decide +kernel) rfl (Nat.le_of_ble_eq_true rfl) ?_
  intro p e s m args below meth c X Q hret hH ls hl
  obtain ⟨hx, hb, hml, hown, hts⟩ := X.1
  have hl : lv_has ls 3 [(0, .ref (a 0 0))] := hl
  have hH : zH D k a s (zUp g 0 v) s.heap [] := hH
  refine lv_iconst (v := 0) hx hb dX3_stalePlans_0 (by decide) ?_
  refine lv_istore_n (lv' := [(1, .int 0), (0, .ref (a 0 0))]) hx hb dX3_stalePlans_1 rfl hl (by decide) rfl (fun ls hl => ?_)
  refine lv_iconst (v := 0) hx hb dX3_stalePlans_2 (by decide) ?_
  refine lv_istore_n (lv' := [(2, .int 0), (1, .int 0), (0, .ref (a 0 0))]) hx hb dX3_stalePlans_3 rfl hl (by decide) rfl (fun ls hl => ?_)
  have Lp4 : ∀ (jx i : Nat), i + jx = 12 → ∀ (H : Heap) (locs : List Loc) (ls : Array Slot), zH D k a s (zUp g 0 v) H locs → lv_has ls 3 [(2, .int (nI i)), (1, .int (fS v i)), (0, .ref (a 0 0))] → W p l e (zRoom 3 64) s m args below meth c H locs 0 0 Q (F0 m 4 ls []) := by
    intro jx
    induction jx with
    | zero =>
      intro i hix H locs ls hH hl
      obtain rfl : i = 12 := by omega
      refine lv_iload_n hx hb dX3_stalePlans_4 rfl (lv_at hl 0 rfl) ?_
      refine lv_bipush (v := 12) hx hb dX3_stalePlans_5 (by decide) ?_
      refine n_icmp_ge (A := 12) (B := 12) (tgt := 39) hx hb (by omega) (by omega) dX3_stalePlans_7 (by decide) (fun c1 => ?_) (fun q => absurd q (by omega))
      refine lv_iload_n hx hb dX3_stalePlans_39 rfl (lv_at hl 1 rfl) ?_
      exact hret _ _ _ _ _ _ rfl ⟨by simp only [c1, if_true, if_false, not_true_eq_false, not_false_eq_true, and_self, or_true, true_or, or_false, false_or, and_true, true_and, and_false, false_and, or_self, decide_eq_true_eq, Bool.false_eq_true, z10], rfl⟩ hH dX3_stalePlans_40
    | succ jx ih =>
      intro i hix H locs ls hH hl
      have hi4 : i < 12 := by omega
      refine lv_iload_n hx hb dX3_stalePlans_4 rfl (lv_at hl 0 rfl) ?_
      refine lv_bipush (v := 12) hx hb dX3_stalePlans_5 (by decide) ?_
      refine n_icmp_ge (A := i) (B := 12) (tgt := 39) hx hb (by omega) (by omega) dX3_stalePlans_7 (by decide) (fun q => absurd q (by omega)) (fun c2 => ?_)
      refine lv_aload_n hx hb dX3_stalePlans_10 rfl (lv_at hl 2 rfl) ?_
      refine gf_X3_plans X hH (by omega) q_121 dX3_stalePlans_11 ?_
      refine lv_iload_n hx hb dX3_stalePlans_14 rfl (lv_at hl 0 rfl) ?_
      refine ar_plans X hH (by omega) (i) (by omega) dX3_stalePlans_15 ?_
      refine gn_X1_kept X hH (by omega) q_65 dX3_stalePlans_16 ?_
      refine lv_if_eq (tgt := 33) hx hb dX3_stalePlans_19 (by decide) (fun c3 => ?_) (fun c3 => ?_)
      · refine lv_iinc (v := nI (i + 1)) (lv' := [(2, .int (nI (i + 1))), (1, .int (fS v i)), (0, .ref (a 0 0))]) hx hb dX3_stalePlans_33 hl (k := 0) rfl (z_inc1 _) (by decide) rfl (fun ls hl => ?_)
        refine lv_goto (tgt := 4) hx hb dX3_stalePlans_36 (by decide) ?_
        refine ih (i + 1) (by omega) _ _ _ ?_ ?_
        · exact hH
        · rw [show (fS v (i + 1) : Int32) = fS v i from by simp only [fS, c2, c3, if_true, if_false, or_true, true_or, or_false, false_or, not_true_eq_false, not_false_eq_true]]; exact lv_sub hl [0, 1, 2] rfl
      · refine lv_aload_n hx hb dX3_stalePlans_22 rfl (lv_at hl 2 rfl) ?_
        refine lv_iload_n hx hb dX3_stalePlans_23 rfl (lv_at hl 0 rfl) ?_
        refine z_callVi X hH (c_X3_isStale l D k a g v (i) (by omega)) k_X3_176 (rv_X3 X hH (by omega)) [] rfl rfl hl.1 (Nat.le_of_ble_eq_true rfl) ⟨Nat.le_of_ble_eq_true rfl, Nat.le_of_ble_eq_true rfl⟩ ⟨Nat.le_refl _, Nat.le_refl _⟩ dX3_stalePlans_24 (fun r4 g5 H locs h6 hH => ?_)
        rw [h6.2] at hH
        rw [h6.1]
        refine b_ifeq (P := fChanged v i = true ∨ fOld v i = true) (tgt := 33) hx hb dX3_stalePlans_27 (by decide) (fun c7 => ?_) (fun c7 => ?_)
        · refine lv_iinc (v := nI (i + 1)) (lv' := [(2, .int (nI (i + 1))), (1, .int (fS v i)), (0, .ref (a 0 0))]) hx hb dX3_stalePlans_33 hl (k := 0) rfl (z_inc1 _) (by decide) rfl (fun ls hl => ?_)
          refine lv_goto (tgt := 4) hx hb dX3_stalePlans_36 (by decide) ?_
          refine ih (i + 1) (by omega) _ _ _ ?_ ?_
          · exact hH
          · rw [show (fS v (i + 1) : Int32) = fS v i from by simp only [fS, c2, c3, c7, if_true, if_false, or_true, true_or, or_false, false_or, not_true_eq_false, not_false_eq_true]]; exact lv_sub hl [0, 1, 2] rfl
        · refine lv_iinc (v := (fS v i) + 1) (lv' := [(1, .int ((fS v i) + 1)), (2, .int (nI i)), (0, .ref (a 0 0))]) hx hb dX3_stalePlans_30 hl (k := 1) rfl (z_incI _) (by decide) rfl (fun ls hl => ?_)
          refine lv_iinc (v := nI (i + 1)) (lv' := [(2, .int (nI (i + 1))), (1, .int ((fS v i) + 1)), (0, .ref (a 0 0))]) hx hb dX3_stalePlans_33 hl (k := 1) rfl (z_inc1 _) (by decide) rfl (fun ls hl => ?_)
          refine lv_goto (tgt := 4) hx hb dX3_stalePlans_36 (by decide) ?_
          refine ih (i + 1) (by omega) _ _ _ ?_ ?_
          · exact hH
          · rw [show (fS v (i + 1) : Int32) = (fS v i) + 1 from by simp only [fS, c2, c3, c7, if_true, if_false, or_true, true_or, or_false, false_or, not_true_eq_false, not_false_eq_true]]; exact lv_sub hl [0, 1, 2] rfl
  refine Lp4 (12) 0 (by omega) _ _ _ ?_ ?_
  · exact hH
  · rw [show (nI 0 : Int32) = 0 from by rfl, show (fS v 0 : Int32) = 0 from by rfl]; exact lv_sub hl [0, 1, 2] rfl
set_option maxRecDepth 100000 in
set_option maxHeartbeats 4000000 in
theorem c_X3_keptPlansOf (l : Launch) (D : va_G) (k : Nat → ClassId) (a : Nat → Nat → Nat) (g : Mem) (v : V) (q : Nat) (hq : q < 4) : zI l yX3_keptPlansOf cX3_keptPlansOf 4 .int 0 0 D k a [.ref (a 0 0), .int (nI q)] (zUp g 0 v) (fun r g' => r = (fKo v q 3) ∧ g' = (zUp g 0 v)) := by
  refine zI_of (own := RX3) (by decide +kernel) rfl (Nat.le_of_ble_eq_true rfl) ?_
  intro p e s m args below meth c X Q hret hH ls hl
  obtain ⟨hx, hb, hml, hown, hts⟩ := X.1
  have hl : lv_has ls 4 [(0, .ref (a 0 0)), (1, .int (nI q))] := hl
  have hH : zH D k a s (zUp g 0 v) s.heap [] := hH
  refine lv_iconst (v := 0) hx hb dX3_keptPlansOf_0 (by decide) ?_
  refine lv_istore_n (lv' := [(2, .int 0), (0, .ref (a 0 0)), (1, .int (nI q))]) hx hb dX3_keptPlansOf_1 rfl hl (by decide) rfl (fun ls hl => ?_)
  refine lv_iconst (v := 0) hx hb dX3_keptPlansOf_2 (by decide) ?_
  refine lv_istore_n (lv' := [(3, .int 0), (2, .int 0), (0, .ref (a 0 0)), (1, .int (nI q))]) hx hb dX3_keptPlansOf_3 rfl hl (by decide) rfl (fun ls hl => ?_)
  have Lp4 : ∀ (jx i : Nat), i + jx = 3 → ∀ (H : Heap) (locs : List Loc) (ls : Array Slot), zH D k a s (zUp g 0 v) H locs → lv_has ls 4 [(3, .int (nI i)), (2, .int (fKo v q i)), (0, .ref (a 0 0)), (1, .int (nI q))] → W p l e (zRoom 0 0) s m args below meth c H locs 0 0 Q (F0 m 4 ls []) := by
    intro jx
    induction jx with
    | zero =>
      intro i hix H locs ls hH hl
      obtain rfl : i = 3 := by omega
      refine lv_iload_n hx hb dX3_keptPlansOf_4 rfl (lv_at hl 0 rfl) ?_
      refine lv_iconst (v := 3) hx hb dX3_keptPlansOf_5 (by decide) ?_
      refine n_icmp_ge (A := 3) (B := 3) (tgt := 34) hx hb (by omega) (by omega) dX3_keptPlansOf_6 (by decide) (fun c1 => ?_) (fun q => absurd q (by omega))
      refine lv_iload_n hx hb dX3_keptPlansOf_34 rfl (lv_at hl 1 rfl) ?_
      exact hret _ _ _ _ _ _ rfl ⟨by simp only [c1, if_true, if_false, not_true_eq_false, not_false_eq_true, and_self, or_true, true_or, or_false, false_or, and_true, true_and, and_false, false_and, or_self, decide_eq_true_eq, Bool.false_eq_true, z10], rfl⟩ hH dX3_keptPlansOf_35
    | succ jx ih =>
      intro i hix H locs ls hH hl
      have hi4 : i < 3 := by omega
      refine lv_iload_n hx hb dX3_keptPlansOf_4 rfl (lv_at hl 0 rfl) ?_
      refine lv_iconst (v := 3) hx hb dX3_keptPlansOf_5 (by decide) ?_
      refine n_icmp_ge (A := i) (B := 3) (tgt := 34) hx hb (by omega) (by omega) dX3_keptPlansOf_6 (by decide) (fun q => absurd q (by omega)) (fun c2 => ?_)
      refine lv_aload_n hx hb dX3_keptPlansOf_9 rfl (lv_at hl 2 rfl) ?_
      refine gf_X3_plans X hH (by omega) q_121 dX3_keptPlansOf_10 ?_
      refine lv_iconst (v := 3) hx hb dX3_keptPlansOf_13 (by decide) ?_
      refine lv_iload_n hx hb dX3_keptPlansOf_14 rfl (lv_at hl 3 rfl) ?_
      refine n_imul (A := 3) (B := q) hx hb (3 * q) (by omega) dX3_keptPlansOf_15 ?_
      refine lv_iload_n hx hb dX3_keptPlansOf_16 rfl (lv_at hl 0 rfl) ?_
      refine n_iadd (A := 3 * q) (B := i) hx hb (3 * q + i) (by omega) dX3_keptPlansOf_17 ?_
      refine ar_plans X hH (by omega) (3 * q + i) (by omega) dX3_keptPlansOf_18 ?_
      refine gn_X1_kept X hH (by omega) q_65 dX3_keptPlansOf_19 ?_
      refine lv_if_eq (tgt := 28) hx hb dX3_keptPlansOf_22 (by decide) (fun c3 => ?_) (fun c3 => ?_)
      · refine lv_iinc (v := nI (i + 1)) (lv' := [(3, .int (nI (i + 1))), (2, .int (fKo v q i)), (0, .ref (a 0 0)), (1, .int (nI q))]) hx hb dX3_keptPlansOf_28 hl (k := 0) rfl (z_inc1 _) (by decide) rfl (fun ls hl => ?_)
        refine lv_goto (tgt := 4) hx hb dX3_keptPlansOf_31 (by decide) ?_
        refine ih (i + 1) (by omega) _ _ _ ?_ ?_
        · exact hH
        · rw [show (fKo v q (i + 1) : Int32) = fKo v q i from by simp only [fKo, c2, c3, if_true, if_false, or_true, true_or, or_false, false_or, not_true_eq_false, not_false_eq_true]]; exact lv_sub hl [0, 1, 2, 3] rfl
      · refine lv_iinc (v := (fKo v q i) + 1) (lv' := [(2, .int ((fKo v q i) + 1)), (3, .int (nI i)), (0, .ref (a 0 0)), (1, .int (nI q))]) hx hb dX3_keptPlansOf_25 hl (k := 1) rfl (z_incI _) (by decide) rfl (fun ls hl => ?_)
        refine lv_iinc (v := nI (i + 1)) (lv' := [(3, .int (nI (i + 1))), (2, .int ((fKo v q i) + 1)), (0, .ref (a 0 0)), (1, .int (nI q))]) hx hb dX3_keptPlansOf_28 hl (k := 1) rfl (z_inc1 _) (by decide) rfl (fun ls hl => ?_)
        refine lv_goto (tgt := 4) hx hb dX3_keptPlansOf_31 (by decide) ?_
        refine ih (i + 1) (by omega) _ _ _ ?_ ?_
        · exact hH
        · rw [show (fKo v q (i + 1) : Int32) = (fKo v q i) + 1 from by simp only [fKo, c2, c3, if_true, if_false, or_true, true_or, or_false, false_or, not_true_eq_false, not_false_eq_true]]; exact lv_sub hl [0, 1, 2, 3] rfl
  refine Lp4 (3) 0 (by omega) _ _ _ ?_ ?_
  · exact hH
  · rw [show (nI 0 : Int32) = 0 from by rfl, show (fKo v q 0 : Int32) = 0 from by rfl]; exact lv_sub hl [0, 1, 2, 3] rfl
set_option maxRecDepth 100000 in
set_option maxHeartbeats 4000000 in
theorem c_X3_oldestUnpinned (l : Launch) (D : va_G) (k : Nat → ClassId) (a : Nat → Nat → Nat) (g : Mem) (v : V) : zI l yX3_oldestUnpinned cX3_oldestUnpinned 6 .int 0 0 D k a [.ref (a 0 0)] (zUp g 0 v) (fun r g' => r = (fOldest v) ∧ g' = (zUp g 0 v)) := by
  refine zI_of (own := RX3) (by decide +kernel) rfl (Nat.le_of_ble_eq_true rfl) ?_
  intro p e s m args below meth c X Q hret hH ls hl
  obtain ⟨hx, hb, hml, hown, hts⟩ := X.1
  have hl : lv_has ls 6 [(0, .ref (a 0 0))] := hl
  have hH : zH D k a s (zUp g 0 v) s.heap [] := hH
  refine lv_bipush (v := (-4)) hx hb dX3_oldestUnpinned_0 (by decide) ?_
  refine lv_istore_n (lv' := [(1, .int (-4)), (0, .ref (a 0 0))]) hx hb dX3_oldestUnpinned_2 rfl hl (by decide) rfl (fun ls hl => ?_)
  refine lv_iconst (v := 0) hx hb dX3_oldestUnpinned_3 (by decide) ?_
  refine lv_istore_n (lv' := [(2, .int 0), (1, .int (-4)), (0, .ref (a 0 0))]) hx hb dX3_oldestUnpinned_4 rfl hl (by decide) rfl (fun ls hl => ?_)
  refine lv_iconst (v := 0) hx hb dX3_oldestUnpinned_5 (by decide) ?_
  refine lv_istore_n (lv' := [(3, .int 0), (2, .int 0), (1, .int (-4)), (0, .ref (a 0 0))]) hx hb dX3_oldestUnpinned_6 rfl hl (by decide) rfl (fun ls hl => ?_)
  have Lp7 : ∀ (jx i : Nat), i + jx = 12 → ∀ (H : Heap) (locs : List Loc) (ls : Array Slot), zH D k a s (zUp g 0 v) H locs → lv_has ls 6 [(3, .int (nI i)), (2, .int ((fO v i).2)), (1, .int ((fO v i).1)), (0, .ref (a 0 0))] → W p l e (zRoom 0 0) s m args below meth c H locs 0 0 Q (F0 m 7 ls []) := by
    intro jx
    induction jx with
    | zero =>
      intro i hix H locs ls hH hl
      obtain rfl : i = 12 := by omega
      refine lv_iload_n hx hb dX3_oldestUnpinned_7 rfl (lv_at hl 0 rfl) ?_
      refine lv_bipush (v := 12) hx hb dX3_oldestUnpinned_8 (by decide) ?_
      refine n_icmp_ge (A := 12) (B := 12) (tgt := 78) hx hb (by omega) (by omega) dX3_oldestUnpinned_10 (by decide) (fun c1 => ?_) (fun q => absurd q (by omega))
      refine lv_iload_n hx hb dX3_oldestUnpinned_78 rfl (lv_at hl 2 rfl) ?_
      exact hret _ _ _ _ _ _ rfl ⟨by simp only [fOldest, c1, if_true, if_false, not_true_eq_false, not_false_eq_true, and_self, or_true, true_or, or_false, false_or, and_true, true_and, and_false, false_and, or_self, decide_eq_true_eq, Bool.false_eq_true, z10], rfl⟩ hH dX3_oldestUnpinned_79
    | succ jx ih =>
      intro i hix H locs ls hH hl
      have hi7 : i < 12 := by omega
      refine lv_iload_n hx hb dX3_oldestUnpinned_7 rfl (lv_at hl 0 rfl) ?_
      refine lv_bipush (v := 12) hx hb dX3_oldestUnpinned_8 (by decide) ?_
      refine n_icmp_ge (A := i) (B := 12) (tgt := 78) hx hb (by omega) (by omega) dX3_oldestUnpinned_10 (by decide) (fun q => absurd q (by omega)) (fun c2 => ?_)
      refine lv_aload_n hx hb dX3_oldestUnpinned_13 rfl (lv_at hl 3 rfl) ?_
      refine gf_X3_plans X hH (by omega) q_121 dX3_oldestUnpinned_14 ?_
      refine lv_iload_n hx hb dX3_oldestUnpinned_17 rfl (lv_at hl 0 rfl) ?_
      refine ar_plans X hH (by omega) (i) (by omega) dX3_oldestUnpinned_18 ?_
      refine lv_astore (lv' := [(4, .ref (a 0 (8 + i))), (3, .int (nI i)), (2, .int ((fO v i).2)), (1, .int ((fO v i).1)), (0, .ref (a 0 0))]) hx hb dX3_oldestUnpinned_19 hl (by decide) rfl (fun ls hl => ?_)
      refine lv_iload_n hx hb dX3_oldestUnpinned_21 rfl (lv_at hl 3 rfl) ?_
      refine lv_bipush (v := (-4)) hx hb dX3_oldestUnpinned_22 (by decide) ?_
      refine lv_icmp_eq (tgt := 36) hx hb dX3_oldestUnpinned_24 (by decide) (fun c3 => ?_) (fun c3 => ?_)
      · refine lv_iconst (v := 1) hx hb dX3_oldestUnpinned_36 (by decide) ?_
        refine lv_goto (tgt := 41) hx hb dX3_oldestUnpinned_37 (by decide) ?_
        refine lv_istore (lv' := [(5, .int 1), (4, .ref (a 0 (8 + i))), (3, .int (nI i)), (2, .int ((fO v i).2)), (1, .int ((fO v i).1)), (0, .ref (a 0 0))]) hx hb dX3_oldestUnpinned_41 hl (by decide) rfl (fun ls hl => ?_)
        refine lv_aload hx hb dX3_oldestUnpinned_43 (lv_at hl 1 rfl) ?_
        refine gn_X1_kept X hH (by omega) q_65 dX3_oldestUnpinned_45 ?_
        refine lv_if_eq (tgt := 72) hx hb dX3_oldestUnpinned_48 (by decide) (fun c4 => ?_) (fun c4 => ?_)
        · refine lv_iinc (v := nI (i + 1)) (lv' := [(3, .int (nI (i + 1))), (5, .int 1), (4, .ref (a 0 (8 + i))), (2, .int ((fO v i).2)), (1, .int ((fO v i).1)), (0, .ref (a 0 0))]) hx hb dX3_oldestUnpinned_72 hl (k := 2) rfl (z_inc1 _) (by decide) rfl (fun ls hl => ?_)
          refine lv_goto (tgt := 7) hx hb dX3_oldestUnpinned_75 (by decide) ?_
          refine ih (i + 1) (by omega) _ _ _ ?_ ?_
          · exact hH
          · rw [show ((fO v (i + 1)).2 : Int32) = (fO v i).2 from by simp only [fO, c2, c3, c4, if_true, if_false, or_true, true_or, or_false, false_or, not_true_eq_false, not_false_eq_true], show ((fO v (i + 1)).1 : Int32) = (fO v i).1 from by simp only [fO, c2, c3, c4, if_true, if_false, or_true, true_or, or_false, false_or, not_true_eq_false, not_false_eq_true]]; exact lv_sub hl [0, 3, 4, 5] rfl
        · refine lv_aload hx hb dX3_oldestUnpinned_51 (lv_at hl 1 rfl) ?_
          refine gn_X1_pinned X hH (by omega) q_68 dX3_oldestUnpinned_53 ?_
          refine lv_if_ne (tgt := 72) hx hb dX3_oldestUnpinned_56 (by decide) (fun c5 => ?_) (fun c5 => ?_)
          · refine lv_iinc (v := nI (i + 1)) (lv' := [(3, .int (nI (i + 1))), (5, .int 1), (4, .ref (a 0 (8 + i))), (2, .int ((fO v i).2)), (1, .int ((fO v i).1)), (0, .ref (a 0 0))]) hx hb dX3_oldestUnpinned_72 hl (k := 2) rfl (z_inc1 _) (by decide) rfl (fun ls hl => ?_)
            refine lv_goto (tgt := 7) hx hb dX3_oldestUnpinned_75 (by decide) ?_
            refine ih (i + 1) (by omega) _ _ _ ?_ ?_
            · exact hH
            · rw [show ((fO v (i + 1)).2 : Int32) = (fO v i).2 from by simp only [fO, c2, c3, c4, c5, if_true, if_false, or_true, true_or, or_false, false_or, not_true_eq_false, not_false_eq_true], show ((fO v (i + 1)).1 : Int32) = (fO v i).1 from by simp only [fO, c2, c3, c4, c5, if_true, if_false, or_true, true_or, or_false, false_or, not_true_eq_false, not_false_eq_true]]; exact lv_sub hl [0, 3, 4, 5] rfl
          · refine lv_iload hx hb dX3_oldestUnpinned_59 (lv_at hl 0 rfl) ?_
            refine lv_if_eq (tgt := 72) hx hb dX3_oldestUnpinned_61 (by decide) (fun q => absurd q (by decide)) (fun _ => ?_)
            refine lv_iload_n hx hb dX3_oldestUnpinned_64 rfl (lv_at hl 2 rfl) ?_
            refine lv_istore_n (lv' := [(1, .int (nI i)), (5, .int 1), (4, .ref (a 0 (8 + i))), (3, .int (nI i)), (2, .int ((fO v i).2)), (0, .ref (a 0 0))]) hx hb dX3_oldestUnpinned_65 rfl hl (by decide) rfl (fun ls hl => ?_)
            refine lv_aload hx hb dX3_oldestUnpinned_66 (lv_at hl 2 rfl) ?_
            refine gn_X1_usedAt X hH (by omega) q_94 dX3_oldestUnpinned_68 ?_
            refine lv_istore_n (lv' := [(2, .int (v (13 + 11 * i + 7))), (1, .int (nI i)), (5, .int 1), (4, .ref (a 0 (8 + i))), (3, .int (nI i)), (0, .ref (a 0 0))]) hx hb dX3_oldestUnpinned_71 rfl hl (by decide) rfl (fun ls hl => ?_)
            refine lv_iinc (v := nI (i + 1)) (lv' := [(3, .int (nI (i + 1))), (2, .int (v (13 + 11 * i + 7))), (1, .int (nI i)), (5, .int 1), (4, .ref (a 0 (8 + i))), (0, .ref (a 0 0))]) hx hb dX3_oldestUnpinned_72 hl (k := 4) rfl (z_inc1 _) (by decide) rfl (fun ls hl => ?_)
            refine lv_goto (tgt := 7) hx hb dX3_oldestUnpinned_75 (by decide) ?_
            refine ih (i + 1) (by omega) _ _ _ ?_ ?_
            · exact hH
            · rw [show ((fO v (i + 1)).2 : Int32) = v (13 + 11 * i + 7) from by simp only [fO, c2, c3, c4, c5, if_true, if_false, or_true, true_or, or_false, false_or, not_true_eq_false, not_false_eq_true], show ((fO v (i + 1)).1 : Int32) = nI i from by simp only [fO, c2, c3, c4, c5, if_true, if_false, or_true, true_or, or_false, false_or, not_true_eq_false, not_false_eq_true]]; exact lv_sub hl [0, 1, 2, 5] rfl
      · refine lv_aload hx hb dX3_oldestUnpinned_27 (lv_at hl 0 rfl) ?_
        refine gn_X1_usedAt X hH (by omega) q_94 dX3_oldestUnpinned_29 ?_
        refine lv_iload_n hx hb dX3_oldestUnpinned_32 rfl (lv_at hl 2 rfl) ?_
        refine i_icmp_ge (tgt := 40) hx hb dX3_oldestUnpinned_33 (by decide) (fun c6 => ?_) (fun c6 => ?_)
        · refine lv_iconst (v := 0) hx hb dX3_oldestUnpinned_40 (by decide) ?_
          refine lv_istore (lv' := [(5, .int 0), (4, .ref (a 0 (8 + i))), (3, .int (nI i)), (2, .int ((fO v i).2)), (1, .int ((fO v i).1)), (0, .ref (a 0 0))]) hx hb dX3_oldestUnpinned_41 hl (by decide) rfl (fun ls hl => ?_)
          refine lv_aload hx hb dX3_oldestUnpinned_43 (lv_at hl 1 rfl) ?_
          refine gn_X1_kept X hH (by omega) q_65 dX3_oldestUnpinned_45 ?_
          refine lv_if_eq (tgt := 72) hx hb dX3_oldestUnpinned_48 (by decide) (fun c7 => ?_) (fun c7 => ?_)
          · refine lv_iinc (v := nI (i + 1)) (lv' := [(3, .int (nI (i + 1))), (5, .int 0), (4, .ref (a 0 (8 + i))), (2, .int ((fO v i).2)), (1, .int ((fO v i).1)), (0, .ref (a 0 0))]) hx hb dX3_oldestUnpinned_72 hl (k := 2) rfl (z_inc1 _) (by decide) rfl (fun ls hl => ?_)
            refine lv_goto (tgt := 7) hx hb dX3_oldestUnpinned_75 (by decide) ?_
            refine ih (i + 1) (by omega) _ _ _ ?_ ?_
            · exact hH
            · rw [show ((fO v (i + 1)).2 : Int32) = (fO v i).2 from by simp only [fO, c2, c3, c6, c7, if_true, if_false, or_true, true_or, or_false, false_or, not_true_eq_false, not_false_eq_true], show ((fO v (i + 1)).1 : Int32) = (fO v i).1 from by simp only [fO, c2, c3, c6, c7, if_true, if_false, or_true, true_or, or_false, false_or, not_true_eq_false, not_false_eq_true]]; exact lv_sub hl [0, 3, 4, 5] rfl
          · refine lv_aload hx hb dX3_oldestUnpinned_51 (lv_at hl 1 rfl) ?_
            refine gn_X1_pinned X hH (by omega) q_68 dX3_oldestUnpinned_53 ?_
            refine lv_if_ne (tgt := 72) hx hb dX3_oldestUnpinned_56 (by decide) (fun c8 => ?_) (fun c8 => ?_)
            · refine lv_iinc (v := nI (i + 1)) (lv' := [(3, .int (nI (i + 1))), (5, .int 0), (4, .ref (a 0 (8 + i))), (2, .int ((fO v i).2)), (1, .int ((fO v i).1)), (0, .ref (a 0 0))]) hx hb dX3_oldestUnpinned_72 hl (k := 2) rfl (z_inc1 _) (by decide) rfl (fun ls hl => ?_)
              refine lv_goto (tgt := 7) hx hb dX3_oldestUnpinned_75 (by decide) ?_
              refine ih (i + 1) (by omega) _ _ _ ?_ ?_
              · exact hH
              · rw [show ((fO v (i + 1)).2 : Int32) = (fO v i).2 from by simp only [fO, c2, c3, c6, c7, c8, if_true, if_false, or_true, true_or, or_false, false_or, not_true_eq_false, not_false_eq_true], show ((fO v (i + 1)).1 : Int32) = (fO v i).1 from by simp only [fO, c2, c3, c6, c7, c8, if_true, if_false, or_true, true_or, or_false, false_or, not_true_eq_false, not_false_eq_true]]; exact lv_sub hl [0, 3, 4, 5] rfl
            · refine lv_iload hx hb dX3_oldestUnpinned_59 (lv_at hl 0 rfl) ?_
              refine lv_if_eq (tgt := 72) hx hb dX3_oldestUnpinned_61 (by decide) (fun _ => ?_) (fun q => absurd (by decide) q)
              refine lv_iinc (v := nI (i + 1)) (lv' := [(3, .int (nI (i + 1))), (5, .int 0), (4, .ref (a 0 (8 + i))), (2, .int ((fO v i).2)), (1, .int ((fO v i).1)), (0, .ref (a 0 0))]) hx hb dX3_oldestUnpinned_72 hl (k := 2) rfl (z_inc1 _) (by decide) rfl (fun ls hl => ?_)
              refine lv_goto (tgt := 7) hx hb dX3_oldestUnpinned_75 (by decide) ?_
              refine ih (i + 1) (by omega) _ _ _ ?_ ?_
              · exact hH
              · rw [show ((fO v (i + 1)).2 : Int32) = (fO v i).2 from by simp only [fO, c2, c3, c6, c7, c8, if_true, if_false, or_true, true_or, or_false, false_or, not_true_eq_false, not_false_eq_true], show ((fO v (i + 1)).1 : Int32) = (fO v i).1 from by simp only [fO, c2, c3, c6, c7, c8, if_true, if_false, or_true, true_or, or_false, false_or, not_true_eq_false, not_false_eq_true]]; exact lv_sub hl [0, 3, 4, 5] rfl
        · refine lv_iconst (v := 1) hx hb dX3_oldestUnpinned_36 (by decide) ?_
          refine lv_goto (tgt := 41) hx hb dX3_oldestUnpinned_37 (by decide) ?_
          refine lv_istore (lv' := [(5, .int 1), (4, .ref (a 0 (8 + i))), (3, .int (nI i)), (2, .int ((fO v i).2)), (1, .int ((fO v i).1)), (0, .ref (a 0 0))]) hx hb dX3_oldestUnpinned_41 hl (by decide) rfl (fun ls hl => ?_)
          refine lv_aload hx hb dX3_oldestUnpinned_43 (lv_at hl 1 rfl) ?_
          refine gn_X1_kept X hH (by omega) q_65 dX3_oldestUnpinned_45 ?_
          refine lv_if_eq (tgt := 72) hx hb dX3_oldestUnpinned_48 (by decide) (fun c9 => ?_) (fun c9 => ?_)
          · refine lv_iinc (v := nI (i + 1)) (lv' := [(3, .int (nI (i + 1))), (5, .int 1), (4, .ref (a 0 (8 + i))), (2, .int ((fO v i).2)), (1, .int ((fO v i).1)), (0, .ref (a 0 0))]) hx hb dX3_oldestUnpinned_72 hl (k := 2) rfl (z_inc1 _) (by decide) rfl (fun ls hl => ?_)
            refine lv_goto (tgt := 7) hx hb dX3_oldestUnpinned_75 (by decide) ?_
            refine ih (i + 1) (by omega) _ _ _ ?_ ?_
            · exact hH
            · rw [show ((fO v (i + 1)).2 : Int32) = (fO v i).2 from by simp only [fO, c2, c3, c6, c9, if_true, if_false, or_true, true_or, or_false, false_or, not_true_eq_false, not_false_eq_true], show ((fO v (i + 1)).1 : Int32) = (fO v i).1 from by simp only [fO, c2, c3, c6, c9, if_true, if_false, or_true, true_or, or_false, false_or, not_true_eq_false, not_false_eq_true]]; exact lv_sub hl [0, 3, 4, 5] rfl
          · refine lv_aload hx hb dX3_oldestUnpinned_51 (lv_at hl 1 rfl) ?_
            refine gn_X1_pinned X hH (by omega) q_68 dX3_oldestUnpinned_53 ?_
            refine lv_if_ne (tgt := 72) hx hb dX3_oldestUnpinned_56 (by decide) (fun c10 => ?_) (fun c10 => ?_)
            · refine lv_iinc (v := nI (i + 1)) (lv' := [(3, .int (nI (i + 1))), (5, .int 1), (4, .ref (a 0 (8 + i))), (2, .int ((fO v i).2)), (1, .int ((fO v i).1)), (0, .ref (a 0 0))]) hx hb dX3_oldestUnpinned_72 hl (k := 2) rfl (z_inc1 _) (by decide) rfl (fun ls hl => ?_)
              refine lv_goto (tgt := 7) hx hb dX3_oldestUnpinned_75 (by decide) ?_
              refine ih (i + 1) (by omega) _ _ _ ?_ ?_
              · exact hH
              · rw [show ((fO v (i + 1)).2 : Int32) = (fO v i).2 from by simp only [fO, c2, c3, c6, c9, c10, if_true, if_false, or_true, true_or, or_false, false_or, not_true_eq_false, not_false_eq_true], show ((fO v (i + 1)).1 : Int32) = (fO v i).1 from by simp only [fO, c2, c3, c6, c9, c10, if_true, if_false, or_true, true_or, or_false, false_or, not_true_eq_false, not_false_eq_true]]; exact lv_sub hl [0, 3, 4, 5] rfl
            · refine lv_iload hx hb dX3_oldestUnpinned_59 (lv_at hl 0 rfl) ?_
              refine lv_if_eq (tgt := 72) hx hb dX3_oldestUnpinned_61 (by decide) (fun q => absurd q (by decide)) (fun _ => ?_)
              refine lv_iload_n hx hb dX3_oldestUnpinned_64 rfl (lv_at hl 2 rfl) ?_
              refine lv_istore_n (lv' := [(1, .int (nI i)), (5, .int 1), (4, .ref (a 0 (8 + i))), (3, .int (nI i)), (2, .int ((fO v i).2)), (0, .ref (a 0 0))]) hx hb dX3_oldestUnpinned_65 rfl hl (by decide) rfl (fun ls hl => ?_)
              refine lv_aload hx hb dX3_oldestUnpinned_66 (lv_at hl 2 rfl) ?_
              refine gn_X1_usedAt X hH (by omega) q_94 dX3_oldestUnpinned_68 ?_
              refine lv_istore_n (lv' := [(2, .int (v (13 + 11 * i + 7))), (1, .int (nI i)), (5, .int 1), (4, .ref (a 0 (8 + i))), (3, .int (nI i)), (0, .ref (a 0 0))]) hx hb dX3_oldestUnpinned_71 rfl hl (by decide) rfl (fun ls hl => ?_)
              refine lv_iinc (v := nI (i + 1)) (lv' := [(3, .int (nI (i + 1))), (2, .int (v (13 + 11 * i + 7))), (1, .int (nI i)), (5, .int 1), (4, .ref (a 0 (8 + i))), (0, .ref (a 0 0))]) hx hb dX3_oldestUnpinned_72 hl (k := 4) rfl (z_inc1 _) (by decide) rfl (fun ls hl => ?_)
              refine lv_goto (tgt := 7) hx hb dX3_oldestUnpinned_75 (by decide) ?_
              refine ih (i + 1) (by omega) _ _ _ ?_ ?_
              · exact hH
              · rw [show ((fO v (i + 1)).2 : Int32) = v (13 + 11 * i + 7) from by simp only [fO, c2, c3, c6, c9, c10, if_true, if_false, or_true, true_or, or_false, false_or, not_true_eq_false, not_false_eq_true], show ((fO v (i + 1)).1 : Int32) = nI i from by simp only [fO, c2, c3, c6, c9, c10, if_true, if_false, or_true, true_or, or_false, false_or, not_true_eq_false, not_false_eq_true]]; exact lv_sub hl [0, 1, 2, 5] rfl
  refine Lp7 (12) 0 (by omega) _ _ _ ?_ ?_
  · exact hH
  · rw [show (nI 0 : Int32) = 0 from by rfl, show ((fO v 0).2 : Int32) = 0 from by rfl, show ((fO v 0).1 : Int32) = (-4) from by rfl]; exact lv_sub hl [0, 1, 2, 3] rfl
set_option maxRecDepth 100000 in
set_option maxHeartbeats 4000000 in
theorem c_X3_couldKeep (l : Launch) (D : va_G) (k : Nat → ClassId) (a : Nat → Nat → Nat) (g : Mem) (v : V) (z : Nat) (hz : z < 12) : zI l yX3_couldKeep cX3_couldKeep 2 .boolean 1 22 D k a [.ref (a 0 0), .int (nI z)] (zUp g 0 v) (fun r g' => r = (if fCould v z = true then 1 else 0) ∧ g' = (zUp g 0 v)) := by
  refine zI_of (own := RX3) (by decide +kernel) rfl (Nat.le_of_ble_eq_true rfl) ?_
  intro p e s m args below meth c X Q hret hH ls hl
  obtain ⟨hx, hb, hml, hown, hts⟩ := X.1
  have hl : lv_has ls 2 [(0, .ref (a 0 0)), (1, .int (nI z))] := hl
  have hH : zH D k a s (zUp g 0 v) s.heap [] := hH
  refine lv_aload_n hx hb dX3_couldKeep_0 rfl (lv_at hl 0 rfl) ?_
  refine gf_X3_plans X hH (by omega) q_121 dX3_couldKeep_1 ?_
  refine lv_iload_n hx hb dX3_couldKeep_4 rfl (lv_at hl 1 rfl) ?_
  refine ar_plans X hH (by omega) (z) (by omega) dX3_couldKeep_5 ?_
  refine gn_X1_kept X hH (by omega) q_65 dX3_couldKeep_6 ?_
  refine lv_if_ne (tgt := 25) hx hb dX3_couldKeep_9 (by decide) (fun c1 => ?_) (fun c1 => ?_)
  · refine lv_iconst (v := 1) hx hb dX3_couldKeep_25 (by decide) ?_
    refine lv_goto (tgt := 30) hx hb dX3_couldKeep_26 (by decide) ?_
    exact hret _ _ _ _ _ _ rfl ⟨by simp only [fCould, c1, if_true, if_false, not_true_eq_false, not_false_eq_true, and_self, or_true, true_or, or_false, false_or, and_true, true_and, and_false, false_and, or_self, decide_eq_true_eq, Bool.false_eq_true, z10], rfl⟩ hH dX3_couldKeep_30
  · refine lv_aload_n hx hb dX3_couldKeep_12 rfl (lv_at hl 0 rfl) ?_
    refine z_callVi X hH (c_X3_pinnedPlans l D k a g v) k_X3_160 (rv_X3 X hH (by omega)) [] rfl rfl hl.1 (Nat.le_of_ble_eq_true rfl) ⟨Nat.le_of_ble_eq_true rfl, Nat.le_of_ble_eq_true rfl⟩ ⟨Nat.le_refl _, Nat.le_refl _⟩ dX3_couldKeep_13 (fun r2 g3 H locs h4 hH => ?_)
    rw [h4.2] at hH
    rw [h4.1]
    refine lv_aload_n hx hb dX3_couldKeep_16 rfl (lv_at hl 0 rfl) ?_
    refine gf_X3_settings X hH (by omega) q_123 dX3_couldKeep_17 ?_
    refine lv_iconst (v := 3) hx hb dX3_couldKeep_20 (by decide) ?_
    refine an_sets X hH (3) (by omega) dX3_couldKeep_21 ?_
    refine i_icmp_ge (tgt := 29) hx hb dX3_couldKeep_22 (by decide) (fun c5 => ?_) (fun c5 => ?_)
    · refine lv_iconst (v := 0) hx hb dX3_couldKeep_29 (by decide) ?_
      exact hret _ _ _ _ _ _ rfl ⟨by simp only [fCould, c1, c5, if_true, if_false, not_true_eq_false, not_false_eq_true, and_self, or_true, true_or, or_false, false_or, and_true, true_and, and_false, false_and, or_self, decide_eq_true_eq, Bool.false_eq_true, z10], rfl⟩ hH dX3_couldKeep_30
    · refine lv_iconst (v := 1) hx hb dX3_couldKeep_25 (by decide) ?_
      refine lv_goto (tgt := 30) hx hb dX3_couldKeep_26 (by decide) ?_
      exact hret _ _ _ _ _ _ rfl ⟨by simp only [fCould, c1, c5, if_true, if_false, not_true_eq_false, not_false_eq_true, and_self, or_true, true_or, or_false, false_or, and_true, true_and, and_false, false_and, or_self, decide_eq_true_eq, Bool.false_eq_true, z10], rfl⟩ hH dX3_couldKeep_30
set_option maxRecDepth 100000 in
set_option maxHeartbeats 4000000 in
theorem c_X3_lacksRoomFor (l : Launch) (D : va_G) (k : Nat → ClassId) (a : Nat → Nat → Nat) (g : Mem) (v : V) (z : Nat) (hz : z < 12) : zI l yX3_lacksRoomFor cX3_lacksRoomFor 2 .boolean 1 22 D k a [.ref (a 0 0), .int (nI z)] (zUp g 0 v) (fun r g' => r = (if fLacks v z = true then 1 else 0) ∧ g' = (zUp g 0 v)) := by
  refine zI_of (own := RX3) (by decide +kernel) rfl (Nat.le_of_ble_eq_true rfl) ?_
  intro p e s m args below meth c X Q hret hH ls hl
  obtain ⟨hx, hb, hml, hown, hts⟩ := X.1
  have hl : lv_has ls 2 [(0, .ref (a 0 0)), (1, .int (nI z))] := hl
  have hH : zH D k a s (zUp g 0 v) s.heap [] := hH
  refine lv_aload_n hx hb dX3_lacksRoomFor_0 rfl (lv_at hl 0 rfl) ?_
  refine gf_X3_plans X hH (by omega) q_121 dX3_lacksRoomFor_1 ?_
  refine lv_iload_n hx hb dX3_lacksRoomFor_4 rfl (lv_at hl 1 rfl) ?_
  refine ar_plans X hH (by omega) (z) (by omega) dX3_lacksRoomFor_5 ?_
  refine gn_X1_kept X hH (by omega) q_65 dX3_lacksRoomFor_6 ?_
  refine lv_if_ne (tgt := 29) hx hb dX3_lacksRoomFor_9 (by decide) (fun c1 => ?_) (fun c1 => ?_)
  · refine lv_iconst (v := 0) hx hb dX3_lacksRoomFor_29 (by decide) ?_
    exact hret _ _ _ _ _ _ rfl ⟨by simp only [fLacks, c1, if_true, if_false, not_true_eq_false, not_false_eq_true, and_self, or_true, true_or, or_false, false_or, and_true, true_and, and_false, false_and, or_self, decide_eq_true_eq, Bool.false_eq_true, z10], rfl⟩ hH dX3_lacksRoomFor_30
  · refine lv_aload_n hx hb dX3_lacksRoomFor_12 rfl (lv_at hl 0 rfl) ?_
    refine z_callVi X hH (c_X3_keptPlans l D k a g v) k_X3_164 (rv_X3 X hH (by omega)) [] rfl rfl hl.1 (Nat.le_of_ble_eq_true rfl) ⟨Nat.le_of_ble_eq_true rfl, Nat.le_of_ble_eq_true rfl⟩ ⟨Nat.le_refl _, Nat.le_refl _⟩ dX3_lacksRoomFor_13 (fun r2 g3 H locs h4 hH => ?_)
    rw [h4.2] at hH
    rw [h4.1]
    refine lv_aload_n hx hb dX3_lacksRoomFor_16 rfl (lv_at hl 0 rfl) ?_
    refine gf_X3_settings X hH (by omega) q_123 dX3_lacksRoomFor_17 ?_
    refine lv_iconst (v := 3) hx hb dX3_lacksRoomFor_20 (by decide) ?_
    refine an_sets X hH (3) (by omega) dX3_lacksRoomFor_21 ?_
    refine i_icmp_lt (tgt := 29) hx hb dX3_lacksRoomFor_22 (by decide) (fun c5 => ?_) (fun c5 => ?_)
    · refine lv_iconst (v := 0) hx hb dX3_lacksRoomFor_29 (by decide) ?_
      exact hret _ _ _ _ _ _ rfl ⟨by simp only [fLacks, c1, c5, if_true, if_false, not_true_eq_false, not_false_eq_true, and_self, or_true, true_or, or_false, false_or, and_true, true_and, and_false, false_and, or_self, decide_eq_true_eq, Bool.false_eq_true, z10], rfl⟩ hH dX3_lacksRoomFor_30
    · refine lv_iconst (v := 1) hx hb dX3_lacksRoomFor_25 (by decide) ?_
      refine lv_goto (tgt := 30) hx hb dX3_lacksRoomFor_26 (by decide) ?_
      exact hret _ _ _ _ _ _ rfl ⟨by simp only [fLacks, c1, c5, if_true, if_false, not_true_eq_false, not_false_eq_true, and_self, or_true, true_or, or_false, false_or, and_true, true_and, and_false, false_and, or_self, decide_eq_true_eq, Bool.false_eq_true, z10], rfl⟩ hH dX3_lacksRoomFor_30
set_option maxRecDepth 100000 in
set_option maxHeartbeats 4000000 in
theorem c_X3_firstCrowdedOutBy (l : Launch) (D : va_G) (k : Nat → ClassId) (a : Nat → Nat → Nat) (g : Mem) (v : V) (z : Nat) (hz : z < 12) : zI l yX3_firstCrowdedOutBy cX3_firstCrowdedOutBy 2 .int 2 43 D k a [.ref (a 0 0), .int (nI z)] (zUp g 0 v) (fun r g' => r = (fFirst v z) ∧ g' = (zUp g 0 v)) := by
  refine zI_of (own := RX3) (by decide +kernel) rfl (Nat.le_of_ble_eq_true rfl) ?_
  intro p e s m args below meth c X Q hret hH ls hl
  obtain ⟨hx, hb, hml, hown, hts⟩ := X.1
  have hl : lv_has ls 2 [(0, .ref (a 0 0)), (1, .int (nI z))] := hl
  have hH : zH D k a s (zUp g 0 v) s.heap [] := hH
  refine lv_aload_n hx hb dX3_firstCrowdedOutBy_0 rfl (lv_at hl 0 rfl) ?_
  refine lv_iload_n hx hb dX3_firstCrowdedOutBy_1 rfl (lv_at hl 1 rfl) ?_
  refine z_callVi X hH (c_X3_lacksRoomFor l D k a g v (z) (by omega)) k_X3_167 (rv_X3 X hH (by omega)) [] rfl rfl hl.1 (Nat.le_of_ble_eq_true rfl) ⟨Nat.le_of_ble_eq_true rfl, Nat.le_of_ble_eq_true rfl⟩ ⟨Nat.le_refl _, Nat.le_refl _⟩ dX3_firstCrowdedOutBy_2 (fun r1 g2 H locs h3 hH => ?_)
  rw [h3.2] at hH
  rw [h3.1]
  refine b_ifeq (P := fLacks v z = true) (tgt := 15) hx hb dX3_firstCrowdedOutBy_5 (by decide) (fun c4 => ?_) (fun c4 => ?_)
  · refine lv_bipush (v := (-4)) hx hb dX3_firstCrowdedOutBy_15 (by decide) ?_
    exact hret _ _ _ _ _ _ rfl ⟨by simp only [fFirst, c4, if_true, if_false, not_true_eq_false, not_false_eq_true, and_self, or_true, true_or, or_false, false_or, and_true, true_and, and_false, false_and, or_self, decide_eq_true_eq, Bool.false_eq_true, z10], rfl⟩ hH dX3_firstCrowdedOutBy_17
  · refine lv_aload_n hx hb dX3_firstCrowdedOutBy_8 rfl (lv_at hl 0 rfl) ?_
    refine z_callVi X hH (c_X3_oldestUnpinned l D k a g v) k_X3_170 (rv_X3 X hH (by omega)) [] rfl rfl hl.1 (Nat.le_of_ble_eq_true rfl) ⟨Nat.le_of_ble_eq_true rfl, Nat.le_of_ble_eq_true rfl⟩ ⟨Nat.le_refl _, Nat.le_refl _⟩ dX3_firstCrowdedOutBy_9 (fun r5 g6 H locs h7 hH => ?_)
    rw [h7.2] at hH
    rw [h7.1]
    refine lv_goto (tgt := 17) hx hb dX3_firstCrowdedOutBy_12 (by decide) ?_
    exact hret _ _ _ _ _ _ rfl ⟨by simp only [fFirst, c4, if_true, if_false, not_true_eq_false, not_false_eq_true, and_self, or_true, true_or, or_false, false_or, and_true, true_and, and_false, false_and, or_self, decide_eq_true_eq, Bool.false_eq_true, z10], rfl⟩ hH dX3_firstCrowdedOutBy_17
end
section
set_option maxRecDepth 100000 in
set_option maxHeartbeats 4000000 in
theorem c_X3_crowdOutDownTo (l : Launch) (D : va_G) (k : Nat → ClassId) (a : Nat → Nat → Nat) (g : Mem) (v : V) (most : Int32) : zV l yX3_crowdOutDownTo cX3_crowdOutDownTo 5 1 25 D k a [.ref (a 0 0), .int (most)] (zUp g 0 v) (fun g' => g' = (zUp g 0 (fDown v most))) := by
  refine zV_of (own := RX3) (by decide +kernel) rfl (Nat.le_of_ble_eq_true rfl) ?_
  intro p e s m args below meth c X Q hret hH ls hl
  obtain ⟨hx, hb, hml, hown, hts⟩ := X.1
  have hl : lv_has ls 5 [(0, .ref (a 0 0)), (1, .int (most))] := hl
  have hH : zH D k a s (zUp g 0 v) s.heap [] := hH
  refine lv_aload_n hx hb dX3_crowdOutDownTo_0 rfl (lv_at hl 0 rfl) ?_
  refine z_callVi X hH (c_X3_keptPlans l D k a g v) k_X3_164 (rv_X3 X hH (by omega)) [] rfl rfl hl.1 (Nat.le_of_ble_eq_true rfl) ⟨Nat.le_of_ble_eq_true rfl, Nat.le_of_ble_eq_true rfl⟩ ⟨Nat.le_refl _, Nat.le_refl _⟩ dX3_crowdOutDownTo_1 (fun r1 g2 H locs h3 hH => ?_)
  rw [h3.2] at hH
  rw [h3.1]
  refine lv_iload_n hx hb dX3_crowdOutDownTo_4 rfl (lv_at hl 1 rfl) ?_
  refine lv_isub hx hb dX3_crowdOutDownTo_5 ?_
  refine lv_istore_n (lv' := [(2, .int ((fK v 12) - most)), (0, .ref (a 0 0)), (1, .int (most))]) hx hb dX3_crowdOutDownTo_6 rfl hl (by decide) rfl (fun ls hl => ?_)
  refine lv_iconst (v := 0) hx hb dX3_crowdOutDownTo_7 (by decide) ?_
  refine lv_istore_n (lv' := [(3, .int 0), (2, .int ((fK v 12) - most)), (0, .ref (a 0 0)), (1, .int (most))]) hx hb dX3_crowdOutDownTo_8 rfl hl (by decide) rfl (fun ls hl => ?_)
  by_cases h0 : 0 < fK v 12 - most
  · obtain ⟨N, hN, eN⟩ := zPos h0
    have hR : fDown v most = fCrowd N v := by rw [fDown, eN, nI_clamp hN]
    rw [eN] at hl
    have Lp : ∀ (j i : Nat) (v1 : V), i + j = N → fCrowd j v1 = fCrowd N v → ∀ (H : Heap) (locs : List Loc) (ls : Array Slot), zH D k a s (zUp g 0 v1) H locs → lv_has ls 5 [(3, .int (nI i)), (2, .int (nI N)), (0, .ref (a 0 0))] → W p l e (zRoom 1 25) s m args below meth c H locs 0 0 Q (F0 m 9 ls []) := by
      intro j
      induction j with
      | zero =>
        intro i v1 hij hv H locs ls hH hl
        rw [show i = N by omega] at hl
        refine lv_iload_n hx hb dX3_crowdOutDownTo_9 rfl (lv_at hl 0 rfl) ?_
        refine lv_iload_n hx hb dX3_crowdOutDownTo_10 rfl (lv_at hl 1 rfl) ?_
        refine n_icmp_ge (A := N) (B := N) (tgt := 53) hx hb (by omega) (by omega) dX3_crowdOutDownTo_11 (by decide) (fun c4 => ?_) (fun q => absurd q (by omega))
        exact hret _ _ _ _ _ (by rw [hR, ← hv]; rfl) hH dX3_crowdOutDownTo_53
      | succ j ih =>
        intro i v1 hij hv H locs ls hH hl
        have hi : i < N := by omega
        refine lv_iload_n hx hb dX3_crowdOutDownTo_9 rfl (lv_at hl 0 rfl) ?_
        refine lv_iload_n hx hb dX3_crowdOutDownTo_10 rfl (lv_at hl 1 rfl) ?_
        refine n_icmp_ge (A := i) (B := N) (tgt := 53) hx hb (by omega) (by omega) dX3_crowdOutDownTo_11 (by decide) (fun q => absurd q (by omega)) (fun c5 => ?_)
        refine lv_aload_n hx hb dX3_crowdOutDownTo_14 rfl (lv_at hl 2 rfl) ?_
        refine z_callVi X hH (c_X3_oldestUnpinned l D k a g v1) k_X3_170 (rv_X3 X hH (by omega)) [] rfl rfl hl.1 (Nat.le_of_ble_eq_true rfl) ⟨Nat.le_of_ble_eq_true rfl, Nat.le_of_ble_eq_true rfl⟩ ⟨Nat.le_refl _, Nat.le_refl _⟩ dX3_crowdOutDownTo_15 (fun r6 g7 H locs h8 hH => ?_)
        rw [h8.2] at hH
        rw [h8.1]
        refine lv_istore (lv' := [(4, .int (fOldest v1)), (3, .int (nI i)), (2, .int (nI N)), (0, .ref (a 0 0))]) hx hb dX3_crowdOutDownTo_18 hl (by decide) rfl (fun ls hl => ?_)
        refine lv_iload hx hb dX3_crowdOutDownTo_20 (lv_at hl 0 rfl) ?_
        refine i_if_ge (tgt := 26) hx hb dX3_crowdOutDownTo_22 (by decide) (fun c9 => ?_) (fun c9 => ?_)
        · obtain ⟨S, hS, eS, -, -⟩ := fOldest_nat c9
          rw [eS] at hl
          refine lv_aload_n hx hb dX3_crowdOutDownTo_26 rfl (lv_at hl 3 rfl) ?_
          refine gf_X3_plans X hH (by omega) q_121 dX3_crowdOutDownTo_27 ?_
          refine lv_iload hx hb dX3_crowdOutDownTo_30 (lv_at hl 0 rfl) ?_
          refine ar_plans X hH (by omega) (S) (by omega) dX3_crowdOutDownTo_32 ?_
          refine lv_iconst (v := 0) hx hb dX3_crowdOutDownTo_33 (by decide) ?_
          refine pn_X1_kept X hH (by omega) (Or.inl rfl) q_65 dX3_crowdOutDownTo_34 (fun H locs hH => ?_)
          refine lv_aload_n hx hb dX3_crowdOutDownTo_37 rfl (lv_at hl 3 rfl) ?_
          refine lv_dup hx hb dX3_crowdOutDownTo_38 rfl ?_
          refine gn_X3_crowdedOut X hH q_137 dX3_crowdOutDownTo_39 ?_
          rw [show (upd v1 (13 + 11 * S + 0) 0) 151 = v1 151 from (zu_n _ _ (by omega))]
          refine lv_iconst (v := 1) hx hb dX3_crowdOutDownTo_42 (by decide) ?_
          refine lv_iadd hx hb dX3_crowdOutDownTo_43 ?_
          refine pn_X3_crowdedOut X hH q_137 dX3_crowdOutDownTo_44 (fun H locs hH => ?_)
          refine lv_iinc (v := nI (i + 1)) (lv' := [(3, .int (nI (i + 1))), (4, .int (nI S)), (2, .int (nI N)), (0, .ref (a 0 0))]) hx hb dX3_crowdOutDownTo_47 hl (k := 1) rfl (z_inc1 _) (by decide) rfl (fun ls hl => ?_)
          refine lv_goto (tgt := 9) hx hb dX3_crowdOutDownTo_50 (by decide) ?_
          exact ih (i + 1) _ (by omega) (by rw [← hv, fCrowd, if_neg c9, eS, nI_clamp (by omega)]; rfl) _ _ _ hH (lv_sub hl [0, 2, 3] rfl)
        · exact hret _ _ _ _ _ (by rw [hR, ← hv, fCrowd, if_pos c9]) hH dX3_crowdOutDownTo_25
    exact Lp N 0 v (by omega) rfl _ _ _ hH (lv_sub hl [0, 1, 2] rfl)
  · have hR : fDown v most = v := by rw [fDown, z_cl0 h0]; rfl
    refine lv_iload_n hx hb dX3_crowdOutDownTo_9 rfl (lv_at hl 0 rfl) ?_
    refine lv_iload_n hx hb dX3_crowdOutDownTo_10 rfl (lv_at hl 1 rfl) ?_
    refine i_icmp_ge (tgt := 53) hx hb dX3_crowdOutDownTo_11 (by decide) (fun c10 => ?_) (fun q => absurd q h0)
    exact hret _ _ _ _ _ (by rw [hR]) hH dX3_crowdOutDownTo_53
set_option maxRecDepth 100000 in
set_option maxHeartbeats 4000000 in
theorem c_X3_makeRoomFor (l : Launch) (D : va_G) (k : Nat → ClassId) (a : Nat → Nat → Nat) (g : Mem) (v : V) (z : Nat) (hz : z < 12) : zV l yX3_makeRoomFor cX3_makeRoomFor 2 2 49 D k a [.ref (a 0 0), .int (nI z)] (zUp g 0 v) (fun g' => g' = (zUp g 0 (fRoom v z))) := by
  refine zV_of (own := RX3) (by decide +kernel) rfl (Nat.le_of_ble_eq_true rfl) ?_
  intro p e s m args below meth c X Q hret hH ls hl
  obtain ⟨hx, hb, hml, hown, hts⟩ := X.1
  have hl : lv_has ls 2 [(0, .ref (a 0 0)), (1, .int (nI z))] := hl
  have hH : zH D k a s (zUp g 0 v) s.heap [] := hH
  refine lv_aload_n hx hb dX3_makeRoomFor_0 rfl (lv_at hl 0 rfl) ?_
  refine lv_iload_n hx hb dX3_makeRoomFor_1 rfl (lv_at hl 1 rfl) ?_
  refine z_callVi X hH (c_X3_lacksRoomFor l D k a g v (z) (by omega)) k_X3_167 (rv_X3 X hH (by omega)) [] rfl rfl hl.1 (Nat.le_of_ble_eq_true rfl) ⟨Nat.le_of_ble_eq_true rfl, Nat.le_of_ble_eq_true rfl⟩ ⟨Nat.le_refl _, Nat.le_refl _⟩ dX3_makeRoomFor_2 (fun r1 g2 H locs h3 hH => ?_)
  rw [h3.2] at hH
  rw [h3.1]
  refine b_ifeq (P := fLacks v z = true) (tgt := 20) hx hb dX3_makeRoomFor_5 (by decide) (fun c4 => ?_) (fun c4 => ?_)
  · exact hret _ _ _ _ _ (by simp only [fRoom, c4, if_true, if_false, Bool.false_eq_true]) hH dX3_makeRoomFor_20
  · refine lv_aload_n hx hb dX3_makeRoomFor_8 rfl (lv_at hl 0 rfl) ?_
    refine lv_aload_n hx hb dX3_makeRoomFor_9 rfl (lv_at hl 0 rfl) ?_
    refine gf_X3_settings X hH (by omega) q_123 dX3_makeRoomFor_10 ?_
    refine lv_iconst (v := 3) hx hb dX3_makeRoomFor_13 (by decide) ?_
    refine an_sets X hH (3) (by omega) dX3_makeRoomFor_14 ?_
    refine lv_iconst (v := 1) hx hb dX3_makeRoomFor_15 (by decide) ?_
    refine lv_isub hx hb dX3_makeRoomFor_16 ?_
    refine z_callVv X hH (c_X3_crowdOutDownTo l D k a g v ((v 11) - 1)) k_X3_173 (rv_X3 X hH (by omega)) [] rfl rfl hl.1 (Nat.le_of_ble_eq_true rfl) ⟨Nat.le_of_ble_eq_true rfl, Nat.le_of_ble_eq_true rfl⟩ ⟨Nat.le_refl _, Nat.le_refl _⟩ dX3_makeRoomFor_17 (fun g5 H locs h6 hH => ?_)
    rw [h6] at hH
    exact hret _ _ _ _ _ (by simp only [fRoom, c4, if_true, if_false, Bool.false_eq_true]) hH dX3_makeRoomFor_20
set_option maxRecDepth 100000 in
set_option maxHeartbeats 4000000 in
theorem c_X3_place (l : Launch) (D : va_G) (k : Nat → ClassId) (a : Nat → Nat → Nat) (g : Mem) (v : V) (z : Nat) (hz : z < 12) (w n lo hi : Int32) : zV l yX3_place cX3_place 7 3 71 D k a [.ref (a 0 0), .int (nI z), .int (w), .int (n), .int (lo), .int (hi)] (zUp g 0 v) (fun g' => g' = (zUp g 0 (fPlace v z w n lo hi))) := by
  refine zV_of (own := RX3) (by decide +kernel) rfl (Nat.le_of_ble_eq_true rfl) ?_
  intro p e s m args below meth c X Q hret hH ls hl
  obtain ⟨hx, hb, hml, hown, hts⟩ := X.1
  have hl : lv_has ls 7 [(0, .ref (a 0 0)), (1, .int (nI z)), (2, .int (w)), (3, .int (n)), (4, .int (lo)), (5, .int (hi))] := hl
  have hH : zH D k a s (zUp g 0 v) s.heap [] := hH
  refine lv_aload_n hx hb dX3_place_0 rfl (lv_at hl 0 rfl) ?_
  refine gf_X3_plans X hH (by omega) q_121 dX3_place_1 ?_
  refine lv_iload_n hx hb dX3_place_4 rfl (lv_at hl 1 rfl) ?_
  refine ar_plans X hH (by omega) (z) (by omega) dX3_place_5 ?_
  refine lv_astore (lv' := [(6, .ref (a 0 (8 + z))), (0, .ref (a 0 0)), (1, .int (nI z)), (2, .int (w)), (3, .int (n)), (4, .int (lo)), (5, .int (hi))]) hx hb dX3_place_6 hl (by decide) rfl (fun ls hl => ?_)
  refine lv_aload hx hb dX3_place_8 (lv_at hl 0 rfl) ?_
  refine lv_iconst (v := 1) hx hb dX3_place_10 (by decide) ?_
  refine pn_X1_kept X hH (by omega) (Or.inr rfl) q_65 dX3_place_11 (fun H locs hH => ?_)
  refine lv_aload hx hb dX3_place_14 (lv_at hl 0 rfl) ?_
  refine lv_iconst (v := 0) hx hb dX3_place_16 (by decide) ?_
  refine pn_X1_pinned X hH (by omega) (Or.inl rfl) q_68 dX3_place_17 (fun H locs hH => ?_)
  refine lv_aload hx hb dX3_place_20 (lv_at hl 0 rfl) ?_
  refine lv_iload_n hx hb dX3_place_22 rfl (lv_at hl 3 rfl) ?_
  refine pn_X1_way X hH (by omega) q_70 dX3_place_23 (fun H locs hH => ?_)
  refine lv_aload hx hb dX3_place_26 (lv_at hl 0 rfl) ?_
  refine lv_iload hx hb dX3_place_28 (lv_at hl 5 rfl) ?_
  refine pn_X1_least X hH (by omega) q_73 dX3_place_30 (fun H locs hH => ?_)
  refine lv_aload hx hb dX3_place_33 (lv_at hl 0 rfl) ?_
  refine lv_iload hx hb dX3_place_35 (lv_at hl 6 rfl) ?_
  refine pn_X1_most X hH (by omega) q_76 dX3_place_37 (fun H locs hH => ?_)
  refine lv_aload hx hb dX3_place_40 (lv_at hl 0 rfl) ?_
  refine lv_iload_n hx hb dX3_place_42 rfl (lv_at hl 4 rfl) ?_
  refine pn_X1_number X hH (by omega) q_79 dX3_place_43 (fun H locs hH => ?_)
  refine lv_aload hx hb dX3_place_46 (lv_at hl 0 rfl) ?_
  refine lv_aload_n hx hb dX3_place_48 rfl (lv_at hl 1 rfl) ?_
  refine lv_iload_n hx hb dX3_place_49 rfl (lv_at hl 2 rfl) ?_
  refine lv_iload_n hx hb dX3_place_50 rfl (lv_at hl 3 rfl) ?_
  refine lv_iload_n hx hb dX3_place_51 rfl (lv_at hl 4 rfl) ?_
  refine z_callVi X hH (c_X3_priceBy l D k a g (upd (upd (upd (upd (upd (upd v (13 + 11 * z + 0) 1) (13 + 11 * z + 8) 0) (13 + 11 * z + 1) w) (13 + 11 * z + 2) lo) (13 + 11 * z + 3) hi) (13 + 11 * z + 4) n) (z) (by omega) w n) k_X3_85 (rv_X3 X hH (by omega)) [.ref (a 0 (8 + z))] rfl rfl hl.1 (Nat.le_of_ble_eq_true rfl) ⟨Nat.le_of_ble_eq_true rfl, Nat.le_of_ble_eq_true rfl⟩ ⟨Nat.le_refl _, Nat.le_refl _⟩ dX3_place_52 (fun r1 g2 H locs h3 hH => ?_)
  rw [h3.2] at hH
  rw [h3.1]
  rw [show fCost (upd (upd (upd (upd (upd (upd v (13 + 11 * z + 0) 1) (13 + 11 * z + 8) 0) (13 + 11 * z + 1) w) (13 + 11 * z + 2) lo) (13 + 11 * z + 3) hi) (13 + 11 * z + 4) n) z w n = fCost v z w n from fCost_co (by omega) (fun j hj => ((zu_n _ _ (by omega)).trans ((zu_n _ _ (by omega)).trans ((zu_n _ _ (by omega)).trans ((zu_n _ _ (by omega)).trans ((zu_n _ _ (by omega)).trans (zu_n _ _ (by omega))))))))]
  refine pn_X1_guess X hH (by omega) q_82 dX3_place_55 (fun H locs hH => ?_)
  refine lv_aload hx hb dX3_place_58 (lv_at hl 0 rfl) ?_
  refine lv_aload_n hx hb dX3_place_60 rfl (lv_at hl 1 rfl) ?_
  refine lv_iload_n hx hb dX3_place_61 rfl (lv_at hl 2 rfl) ?_
  refine z_callVr X hH (c_X3_tableUnder l D k a (zUp g 0 (upd (upd (upd (upd (upd (upd (upd v (13 + 11 * z + 0) 1) (13 + 11 * z + 8) 0) (13 + 11 * z + 1) w) (13 + 11 * z + 2) lo) (13 + 11 * z + 3) hi) (13 + 11 * z + 4) n) (13 + 11 * z + 5) (fCost v z w n))) (z) (by omega)) k_X3_64 (rv_X3 X hH (by omega)) [.ref (a 0 (8 + z))] rfl rfl hl.1 (Nat.le_of_ble_eq_true rfl) ⟨Nat.le_of_ble_eq_true rfl, Nat.le_of_ble_eq_true rfl⟩ ⟨Nat.le_refl _, Nat.le_refl _⟩ dX3_place_62 (fun H locs hH => ?_)
  refine gn_X4_rows X hH (by omega) q_38 dX3_place_65 ?_
  rw [show (upd (upd (upd (upd (upd (upd (upd v (13 + 11 * z + 0) 1) (13 + 11 * z + 8) 0) (13 + 11 * z + 1) w) (13 + 11 * z + 2) lo) (13 + 11 * z + 3) hi) (13 + 11 * z + 4) n) (13 + 11 * z + 5) (fCost v z w n)) (z / 3) = v (z / 3) from ((zu_n _ _ (by omega)).trans ((zu_n _ _ (by omega)).trans ((zu_n _ _ (by omega)).trans ((zu_n _ _ (by omega)).trans ((zu_n _ _ (by omega)).trans ((zu_n _ _ (by omega)).trans (zu_n _ _ (by omega))))))))]
  refine pn_X1_rows X hH (by omega) q_85 dX3_place_68 (fun H locs hH => ?_)
  refine lv_aload hx hb dX3_place_71 (lv_at hl 0 rfl) ?_
  refine lv_iconst (v := 0) hx hb dX3_place_73 (by decide) ?_
  refine pn_X1_uses X hH (by omega) q_88 dX3_place_74 (fun H locs hH => ?_)
  refine lv_aload hx hb dX3_place_77 (lv_at hl 0 rfl) ?_
  refine lv_aload_n hx hb dX3_place_79 rfl (lv_at hl 1 rfl) ?_
  refine gn_X3_questions X hH q_125 dX3_place_80 ?_
  rw [show (upd (upd (upd (upd (upd (upd (upd (upd (upd v (13 + 11 * z + 0) 1) (13 + 11 * z + 8) 0) (13 + 11 * z + 1) w) (13 + 11 * z + 2) lo) (13 + 11 * z + 3) hi) (13 + 11 * z + 4) n) (13 + 11 * z + 5) (fCost v z w n)) (13 + 11 * z + 10) (v (z / 3))) (13 + 11 * z + 9) 0) 145 = v 145 from ((zu_n _ _ (by omega)).trans ((zu_n _ _ (by omega)).trans ((zu_n _ _ (by omega)).trans ((zu_n _ _ (by omega)).trans ((zu_n _ _ (by omega)).trans ((zu_n _ _ (by omega)).trans ((zu_n _ _ (by omega)).trans ((zu_n _ _ (by omega)).trans (zu_n _ _ (by omega))))))))))]
  refine pn_X1_madeAt X hH (by omega) q_91 dX3_place_83 (fun H locs hH => ?_)
  refine lv_aload hx hb dX3_place_86 (lv_at hl 0 rfl) ?_
  refine lv_aload_n hx hb dX3_place_88 rfl (lv_at hl 1 rfl) ?_
  refine gn_X3_questions X hH q_125 dX3_place_89 ?_
  rw [show (upd (upd (upd (upd (upd (upd (upd (upd (upd (upd v (13 + 11 * z + 0) 1) (13 + 11 * z + 8) 0) (13 + 11 * z + 1) w) (13 + 11 * z + 2) lo) (13 + 11 * z + 3) hi) (13 + 11 * z + 4) n) (13 + 11 * z + 5) (fCost v z w n)) (13 + 11 * z + 10) (v (z / 3))) (13 + 11 * z + 9) 0) (13 + 11 * z + 6) (v 145)) 145 = v 145 from ((zu_n _ _ (by omega)).trans ((zu_n _ _ (by omega)).trans ((zu_n _ _ (by omega)).trans ((zu_n _ _ (by omega)).trans ((zu_n _ _ (by omega)).trans ((zu_n _ _ (by omega)).trans ((zu_n _ _ (by omega)).trans ((zu_n _ _ (by omega)).trans ((zu_n _ _ (by omega)).trans (zu_n _ _ (by omega)))))))))))]
  refine pn_X1_usedAt X hH (by omega) q_94 dX3_place_92 (fun H locs hH => ?_)
  exact hret _ _ _ _ _ (rfl) hH dX3_place_95
set_option maxRecDepth 100000 in
set_option maxHeartbeats 4000000 in
theorem c_X3_resize (l : Launch) (D : va_G) (k : Nat → ClassId) (a : Nat → Nat → Nat) (g : Mem) (v : V) (q : Nat) (hq : q < 4) (x many : Int32) : zV l yX3_resize cX3_resize 4 0 0 D k a [.ref (a 0 0), .int (nI q), .int (x), .int (many)] (zUp g 0 v) (fun g' => g' = (zUp g 0 (fResize v q x many))) := by
  refine zV_of (own := RX3) (by decide +kernel) rfl (Nat.le_of_ble_eq_true rfl) ?_
  intro p e s m args below meth c X Q hret hH ls hl
  obtain ⟨hx, hb, hml, hown, hts⟩ := X.1
  have hl : lv_has ls 4 [(0, .ref (a 0 0)), (1, .int (nI q)), (2, .int (x)), (3, .int (many))] := hl
  have hH : zH D k a s (zUp g 0 v) s.heap [] := hH
  refine lv_iload_n hx hb dX3_resize_0 rfl (lv_at hl 2 rfl) ?_
  refine lv_if_eq (tgt := 17) hx hb dX3_resize_1 (by decide) (fun c1 => ?_) (fun c1 => ?_)
  · refine lv_aload_n hx hb dX3_resize_17 rfl (lv_at hl 0 rfl) ?_
    refine gf_X3_tables X hH (by omega) q_119 dX3_resize_18 ?_
    refine lv_iload_n hx hb dX3_resize_21 rfl (lv_at hl 1 rfl) ?_
    refine ar_tabs X hH (by omega) (q) (by omega) dX3_resize_22 ?_
    refine lv_iload_n hx hb dX3_resize_23 rfl (lv_at hl 3 rfl) ?_
    refine pn_X4_rows X hH (by omega) q_38 dX3_resize_24 (fun H locs hH => ?_)
    exact hret _ _ _ _ _ (by simp only [fResize, c1, if_true, if_false]) hH dX3_resize_27
  · refine lv_aload_n hx hb dX3_resize_4 rfl (lv_at hl 0 rfl) ?_
    refine gf_X3_tables X hH (by omega) q_119 dX3_resize_5 ?_
    refine lv_iload_n hx hb dX3_resize_8 rfl (lv_at hl 1 rfl) ?_
    refine ar_tabs X hH (by omega) (q) (by omega) dX3_resize_9 ?_
    refine lv_iload_n hx hb dX3_resize_10 rfl (lv_at hl 3 rfl) ?_
    refine pn_X4_keys X hH (by omega) q_41 dX3_resize_11 (fun H locs hH => ?_)
    refine lv_goto (tgt := 27) hx hb dX3_resize_14 (by decide) ?_
    exact hret _ _ _ _ _ (by simp only [fResize, c1, if_true, if_false]) hH dX3_resize_27
set_option maxRecDepth 100000 in
set_option maxHeartbeats 4000000 in
theorem c_X3_answerByPlan (l : Launch) (D : va_G) (k : Nat → ClassId) (a : Nat → Nat → Nat) (g : Mem) (v : V) (z : Nat) (hz : z < 12) (n : Int32) : zI l yX3_answerByPlan cX3_answerByPlan 5 .int 3 71 D k a [.ref (a 0 0), .int (nI z), .int (n)] (zUp g 0 v) (fun r g' => r = ((fHit v z n).1) ∧ g' = (zUp g 0 ((fHit v z n).2))) := by
  refine zI_of (own := RX3) (by decide +kernel) rfl (Nat.le_of_ble_eq_true rfl) ?_
  intro p e s m args below meth c X Q hret hH ls hl
  obtain ⟨hx, hb, hml, hown, hts⟩ := X.1
  have hl : lv_has ls 5 [(0, .ref (a 0 0)), (1, .int (nI z)), (2, .int (n))] := hl
  have hH : zH D k a s (zUp g 0 v) s.heap [] := hH
  refine lv_aload_n hx hb dX3_answerByPlan_0 rfl (lv_at hl 0 rfl) ?_
  refine gf_X3_plans X hH (by omega) q_121 dX3_answerByPlan_1 ?_
  refine lv_iload_n hx hb dX3_answerByPlan_4 rfl (lv_at hl 1 rfl) ?_
  refine ar_plans X hH (by omega) (z) (by omega) dX3_answerByPlan_5 ?_
  refine lv_astore_n (lv' := [(3, .ref (a 0 (8 + z))), (0, .ref (a 0 0)), (1, .int (nI z)), (2, .int (n))]) hx hb dX3_answerByPlan_6 rfl hl (by decide) rfl (fun ls hl => ?_)
  refine lv_aload_n hx hb dX3_answerByPlan_7 rfl (lv_at hl 1 rfl) ?_
  refine lv_iload_n hx hb dX3_answerByPlan_8 rfl (lv_at hl 2 rfl) ?_
  refine lv_aload_n hx hb dX3_answerByPlan_9 rfl (lv_at hl 0 rfl) ?_
  refine gn_X1_way X hH (by omega) q_70 dX3_answerByPlan_10 ?_
  refine lv_iload_n hx hb dX3_answerByPlan_13 rfl (lv_at hl 3 rfl) ?_
  refine z_callVi X hH (c_X3_priceBy l D k a g v (z) (by omega) (v (13 + 11 * z + 1)) n) k_X3_85 (rv_X3 X hH (by omega)) [] rfl rfl hl.1 (Nat.le_of_ble_eq_true rfl) ⟨Nat.le_of_ble_eq_true rfl, Nat.le_of_ble_eq_true rfl⟩ ⟨Nat.le_refl _, Nat.le_refl _⟩ dX3_answerByPlan_14 (fun r1 g2 H locs h3 hH => ?_)
  rw [h3.2] at hH
  rw [h3.1]
  refine lv_istore (lv' := [(4, .int (fCost v z (v (13 + 11 * z + 1)) n)), (3, .ref (a 0 (8 + z))), (0, .ref (a 0 0)), (1, .int (nI z)), (2, .int (n))]) hx hb dX3_answerByPlan_17 hl (by decide) rfl (fun ls hl => ?_)
  refine lv_aload_n hx hb dX3_answerByPlan_19 rfl (lv_at hl 2 rfl) ?_
  refine lv_dup hx hb dX3_answerByPlan_20 rfl ?_
  refine gn_X3_hits X hH q_127 dX3_answerByPlan_21 ?_
  refine lv_iconst (v := 1) hx hb dX3_answerByPlan_24 (by decide) ?_
  refine lv_iadd hx hb dX3_answerByPlan_25 ?_
  refine pn_X3_hits X hH q_127 dX3_answerByPlan_26 (fun H locs hH => ?_)
  refine lv_aload_n hx hb dX3_answerByPlan_29 rfl (lv_at hl 1 rfl) ?_
  refine lv_dup hx hb dX3_answerByPlan_30 rfl ?_
  refine gn_X1_uses X hH (by omega) q_88 dX3_answerByPlan_31 ?_
  rw [show (upd v 146 ((v 146) + 1)) (13 + 11 * z + 9) = v (13 + 11 * z + 9) from (zu_n _ _ (by omega))]
  refine lv_iconst (v := 1) hx hb dX3_answerByPlan_34 (by decide) ?_
  refine lv_iadd hx hb dX3_answerByPlan_35 ?_
  refine pn_X1_uses X hH (by omega) q_88 dX3_answerByPlan_36 (fun H locs hH => ?_)
  refine lv_aload_n hx hb dX3_answerByPlan_39 rfl (lv_at hl 1 rfl) ?_
  refine lv_aload_n hx hb dX3_answerByPlan_40 rfl (lv_at hl 2 rfl) ?_
  refine gn_X3_questions X hH q_125 dX3_answerByPlan_41 ?_
  rw [show (upd (upd v 146 ((v 146) + 1)) (13 + 11 * z + 9) ((v (13 + 11 * z + 9)) + 1)) 145 = v 145 from ((zu_n _ _ (by omega)).trans (zu_n _ _ (by omega)))]
  refine pn_X1_usedAt X hH (by omega) q_94 dX3_answerByPlan_44 (fun H locs hH => ?_)
  refine lv_aload_n hx hb dX3_answerByPlan_47 rfl (lv_at hl 2 rfl) ?_
  refine lv_iload_n hx hb dX3_answerByPlan_48 rfl (lv_at hl 3 rfl) ?_
  refine lv_iload hx hb dX3_answerByPlan_49 (lv_at hl 0 rfl) ?_
  refine z_callVi X hH (c_X3_isTooDear l D k a g (upd (upd (upd v 146 ((v 146) + 1)) (13 + 11 * z + 9) ((v (13 + 11 * z + 9)) + 1)) (13 + 11 * z + 7) (v 145)) (z) (by omega) (fCost v z (v (13 + 11 * z + 1)) n)) k_X3_136 (rv_X3 X hH (by omega)) [] rfl rfl hl.1 (Nat.le_of_ble_eq_true rfl) ⟨Nat.le_of_ble_eq_true rfl, Nat.le_of_ble_eq_true rfl⟩ ⟨Nat.le_refl _, Nat.le_refl _⟩ dX3_answerByPlan_51 (fun r4 g5 H locs h6 hH => ?_)
  rw [h6.2] at hH
  rw [h6.1]
  refine b_ifeq (P := fDear (upd (upd (upd v 146 ((v 146) + 1)) (13 + 11 * z + 9) ((v (13 + 11 * z + 9)) + 1)) (13 + 11 * z + 7) (v 145)) z (fCost v z (v (13 + 11 * z + 1)) n) = true) (tgt := 72) hx hb dX3_answerByPlan_54 (by decide) (fun c7 => ?_) (fun c7 => ?_)
  · refine lv_iload hx hb dX3_answerByPlan_72 (lv_at hl 0 rfl) ?_
    exact hret _ _ _ _ _ _ rfl ⟨rfl, by simp only [fHit, fHitV, c7, if_true, if_false, Bool.false_eq_true]⟩ hH dX3_answerByPlan_74
  · refine lv_aload_n hx hb dX3_answerByPlan_57 rfl (lv_at hl 1 rfl) ?_
    refine lv_iconst (v := 0) hx hb dX3_answerByPlan_58 (by decide) ?_
    refine pn_X1_kept X hH (by omega) (Or.inl rfl) q_65 dX3_answerByPlan_59 (fun H locs hH => ?_)
    refine lv_aload_n hx hb dX3_answerByPlan_62 rfl (lv_at hl 2 rfl) ?_
    refine lv_dup hx hb dX3_answerByPlan_63 rfl ?_
    refine gn_X3_turnedBad X hH q_135 dX3_answerByPlan_64 ?_
    rw [show (upd (upd (upd (upd v 146 ((v 146) + 1)) (13 + 11 * z + 9) ((v (13 + 11 * z + 9)) + 1)) (13 + 11 * z + 7) (v 145)) (13 + 11 * z + 0) 0) 150 = v 150 from ((zu_n _ _ (by omega)).trans ((zu_n _ _ (by omega)).trans ((zu_n _ _ (by omega)).trans (zu_n _ _ (by omega)))))]
    refine lv_iconst (v := 1) hx hb dX3_answerByPlan_67 (by decide) ?_
    refine lv_iadd hx hb dX3_answerByPlan_68 ?_
    refine pn_X3_turnedBad X hH q_135 dX3_answerByPlan_69 (fun H locs hH => ?_)
    refine lv_iload hx hb dX3_answerByPlan_72 (lv_at hl 0 rfl) ?_
    exact hret _ _ _ _ _ _ rfl ⟨rfl, by simp only [fHit, fHitV, c7, if_true, if_false, Bool.false_eq_true]⟩ hH dX3_answerByPlan_74
end
section
set_option maxRecDepth 100000 in
set_option maxHeartbeats 4000000 in
theorem c_X3_answerByLooking (l : Launch) (D : va_G) (k : Nat → ClassId) (a : Nat → Nat → Nat) (g : Mem) (v : V) (z : Nat) (hz : z < 12) (n : Int32) : zI l yX3_answerByLooking cX3_answerByLooking 5 .int 4 97 D k a [.ref (a 0 0), .int (nI z), .int (n)] (zUp g 0 v) (fun r g' => r = ((fMiss v z n).1) ∧ g' = (zUp g 0 ((fMiss v z n).2))) := by
  refine zI_of (own := RX3) (by decide +kernel) rfl (Nat.le_of_ble_eq_true rfl) ?_
  intro p e s m args below meth c X Q hret hH ls hl
  obtain ⟨hx, hb, hml, hown, hts⟩ := X.1
  have hl : lv_has ls 5 [(0, .ref (a 0 0)), (1, .int (nI z)), (2, .int (n))] := hl
  have hH : zH D k a s (zUp g 0 v) s.heap [] := hH
  refine lv_aload_n hx hb dX3_answerByLooking_0 rfl (lv_at hl 0 rfl) ?_
  refine lv_iload_n hx hb dX3_answerByLooking_1 rfl (lv_at hl 1 rfl) ?_
  refine lv_iload_n hx hb dX3_answerByLooking_2 rfl (lv_at hl 2 rfl) ?_
  refine z_callVi X hH (c_X3_cheapestWay l D k a g v (z) (by omega) n) k_X3_140 (rv_X3 X hH (by omega)) [] rfl rfl hl.1 (Nat.le_of_ble_eq_true rfl) ⟨Nat.le_of_ble_eq_true rfl, Nat.le_of_ble_eq_true rfl⟩ ⟨Nat.le_refl _, Nat.le_refl _⟩ dX3_answerByLooking_3 (fun r1 g2 H locs h3 hH => ?_)
  rw [h3.2] at hH
  rw [h3.1]
  refine lv_istore_n (lv' := [(3, .int (fBest v z n)), (0, .ref (a 0 0)), (1, .int (nI z)), (2, .int (n))]) hx hb dX3_answerByLooking_6 rfl hl (by decide) rfl (fun ls hl => ?_)
  refine lv_aload_n hx hb dX3_answerByLooking_7 rfl (lv_at hl 1 rfl) ?_
  refine lv_dup hx hb dX3_answerByLooking_8 rfl ?_
  refine gn_X3_misses X hH q_129 dX3_answerByLooking_9 ?_
  refine lv_iconst (v := 1) hx hb dX3_answerByLooking_12 (by decide) ?_
  refine lv_iadd hx hb dX3_answerByLooking_13 ?_
  refine pn_X3_misses X hH q_129 dX3_answerByLooking_14 (fun H locs hH => ?_)
  refine lv_aload_n hx hb dX3_answerByLooking_17 rfl (lv_at hl 1 rfl) ?_
  refine lv_dup hx hb dX3_answerByLooking_18 rfl ?_
  refine gn_X3_spentLooking X hH q_133 dX3_answerByLooking_19 ?_
  rw [show (upd v 147 ((v 147) + 1)) 149 = v 149 from (zu_n _ _ (by omega))]
  refine lv_aload_n hx hb dX3_answerByLooking_22 rfl (lv_at hl 1 rfl) ?_
  refine gf_X3_settings X hH (by omega) q_123 dX3_answerByLooking_23 ?_
  refine lv_iconst (v := 0) hx hb dX3_answerByLooking_26 (by decide) ?_
  refine an_sets X hH (0) (by omega) dX3_answerByLooking_27 ?_
  rw [show (upd v 147 ((v 147) + 1)) 8 = v 8 from (zu_n _ _ (by omega))]
  refine lv_iadd hx hb dX3_answerByLooking_28 ?_
  refine pn_X3_spentLooking X hH q_133 dX3_answerByLooking_29 (fun H locs hH => ?_)
  refine lv_aload_n hx hb dX3_answerByLooking_32 rfl (lv_at hl 1 rfl) ?_
  refine lv_iload_n hx hb dX3_answerByLooking_33 rfl (lv_at hl 2 rfl) ?_
  refine z_callVv X hH (c_X3_makeRoomFor l D k a g (upd (upd v 147 ((v 147) + 1)) 149 ((v 149) + (v 8))) (z) (by omega)) k_X3_143 (rv_X3 X hH (by omega)) [] rfl rfl hl.1 (Nat.le_of_ble_eq_true rfl) ⟨Nat.le_of_ble_eq_true rfl, Nat.le_of_ble_eq_true rfl⟩ ⟨Nat.le_refl _, Nat.le_refl _⟩ dX3_answerByLooking_34 (fun g4 H locs h5 hH => ?_)
  rw [h5] at hH
  have hH : zH D k a s (zUp g 0 (fMissA v z)) H locs := hH
  refine lv_aload_n hx hb dX3_answerByLooking_37 rfl (lv_at hl 1 rfl) ?_
  refine lv_iload_n hx hb dX3_answerByLooking_38 rfl (lv_at hl 2 rfl) ?_
  refine z_callVi X hH (c_X3_couldKeep l D k a g (fMissA v z) (z) (by omega)) k_X3_147 (rv_X3 X hH (by omega)) [] rfl rfl hl.1 (Nat.le_of_ble_eq_true rfl) ⟨Nat.le_of_ble_eq_true rfl, Nat.le_of_ble_eq_true rfl⟩ ⟨Nat.le_refl _, Nat.le_refl _⟩ dX3_answerByLooking_39 (fun r6 g7 H locs h8 hH => ?_)
  rw [h8.2] at hH
  rw [h8.1]
  refine b_ifeq (P := fCould (fMissA v z) z = true) (tgt := 70) hx hb dX3_answerByLooking_42 (by decide) (fun c9 => ?_) (fun c9 => ?_)
  · refine lv_aload_n hx hb dX3_answerByLooking_70 rfl (lv_at hl 1 rfl) ?_
    refine lv_iload_n hx hb dX3_answerByLooking_71 rfl (lv_at hl 2 rfl) ?_
    refine lv_iload_n hx hb dX3_answerByLooking_72 rfl (lv_at hl 0 rfl) ?_
    refine lv_iload_n hx hb dX3_answerByLooking_73 rfl (lv_at hl 3 rfl) ?_
    refine z_callVi X hH (c_X3_priceBy l D k a g (fMissA v z) (z) (by omega) (fBest v z n) n) k_X3_85 (rv_X3 X hH (by omega)) [] rfl rfl hl.1 (Nat.le_of_ble_eq_true rfl) ⟨Nat.le_of_ble_eq_true rfl, Nat.le_of_ble_eq_true rfl⟩ ⟨Nat.le_refl _, Nat.le_refl _⟩ dX3_answerByLooking_74 (fun r10 g11 H locs h12 hH => ?_)
    rw [h12.2] at hH
    rw [h12.1]
    rw [show fCost (fMissA v z) z (fBest v z n) n = fCost v z (fBest v z n) n from fCost_co (by omega) (fun j hj => ((fRoom_o (Or.inl (by omega))).trans ((zu_n _ _ (by omega)).trans (zu_n _ _ (by omega)))))]
    refine lv_aload_n hx hb dX3_answerByLooking_77 rfl (lv_at hl 1 rfl) ?_
    refine gf_X3_settings X hH (by omega) q_123 dX3_answerByLooking_78 ?_
    refine lv_iconst (v := 0) hx hb dX3_answerByLooking_81 (by decide) ?_
    refine an_sets X hH (0) (by omega) dX3_answerByLooking_82 ?_
    rw [show (fMissA v z) 8 = v 8 from ((fRoom_o (Or.inl (by omega))).trans ((zu_n _ _ (by omega)).trans (zu_n _ _ (by omega))))]
    refine lv_iadd hx hb dX3_answerByLooking_83 ?_
    exact hret _ _ _ _ _ _ rfl ⟨rfl, by simp only [fMiss, fMissV, c9, if_true, if_false, Bool.false_eq_true]⟩ hH dX3_answerByLooking_84
  · refine lv_aload_n hx hb dX3_answerByLooking_45 rfl (lv_at hl 1 rfl) ?_
    refine gf_X3_settings X hH (by omega) q_123 dX3_answerByLooking_46 ?_
    refine lv_iconst (v := 1) hx hb dX3_answerByLooking_49 (by decide) ?_
    refine an_sets X hH (1) (by omega) dX3_answerByLooking_50 ?_
    rw [show (fMissA v z) 9 = v 9 from ((fRoom_o (Or.inl (by omega))).trans ((zu_n _ _ (by omega)).trans (zu_n _ _ (by omega))))]
    refine lv_istore (lv' := [(4, .int (v 9)), (3, .int (fBest v z n)), (0, .ref (a 0 0)), (1, .int (nI z)), (2, .int (n))]) hx hb dX3_answerByLooking_51 hl (by decide) rfl (fun ls hl => ?_)
    refine lv_aload_n hx hb dX3_answerByLooking_53 rfl (lv_at hl 2 rfl) ?_
    refine lv_iload_n hx hb dX3_answerByLooking_54 rfl (lv_at hl 3 rfl) ?_
    refine lv_iload_n hx hb dX3_answerByLooking_55 rfl (lv_at hl 1 rfl) ?_
    refine lv_iload_n hx hb dX3_answerByLooking_56 rfl (lv_at hl 4 rfl) ?_
    refine lv_iload_n hx hb dX3_answerByLooking_57 rfl (lv_at hl 4 rfl) ?_
    refine lv_iload hx hb dX3_answerByLooking_58 (lv_at hl 0 rfl) ?_
    refine z_callNi X hH (c_X5_quotient l D k a (zUp g 0 (fMissA v z)) n (v 9)) k_X3_82 (X.2.2.2.2.2.2.2.2.2.2.2.1) [.int (n), .int (fBest v z n), .int (nI z), .ref (a 0 0)] rfl rfl hl.1 (Nat.le_of_ble_eq_true rfl) ⟨Nat.le_of_ble_eq_true rfl, Nat.le_of_ble_eq_true rfl⟩ ⟨Nat.le_refl _, Nat.le_refl _⟩ dX3_answerByLooking_60 (fun r13 g14 H locs h15 hH => ?_)
    rw [h15.2] at hH
    rw [h15.1]
    refine lv_iload_n hx hb dX3_answerByLooking_63 rfl (lv_at hl 4 rfl) ?_
    refine lv_iload hx hb dX3_answerByLooking_64 (lv_at hl 0 rfl) ?_
    refine lv_imul hx hb dX3_answerByLooking_66 ?_
    refine z_callVv X hH (c_X3_place l D k a g (fMissA v z) (z) (by omega) (fBest v z n) n (fQuo n (v 9)) (n * (v 9))) k_X3_150 (rv_X3 X hH (by omega)) [] rfl rfl hl.1 (Nat.le_of_ble_eq_true rfl) ⟨Nat.le_of_ble_eq_true rfl, Nat.le_of_ble_eq_true rfl⟩ ⟨Nat.le_refl _, Nat.le_refl _⟩ dX3_answerByLooking_67 (fun g16 H locs h17 hH => ?_)
    rw [h17] at hH
    refine lv_aload_n hx hb dX3_answerByLooking_70 rfl (lv_at hl 2 rfl) ?_
    refine lv_iload_n hx hb dX3_answerByLooking_71 rfl (lv_at hl 3 rfl) ?_
    refine lv_iload_n hx hb dX3_answerByLooking_72 rfl (lv_at hl 1 rfl) ?_
    refine lv_iload_n hx hb dX3_answerByLooking_73 rfl (lv_at hl 4 rfl) ?_
    refine z_callVi X hH (c_X3_priceBy l D k a g (fPlace (fMissA v z) z (fBest v z n) n (fQuo n (v 9)) (n * (v 9))) (z) (by omega) (fBest v z n) n) k_X3_85 (rv_X3 X hH (by omega)) [] rfl rfl hl.1 (Nat.le_of_ble_eq_true rfl) ⟨Nat.le_of_ble_eq_true rfl, Nat.le_of_ble_eq_true rfl⟩ ⟨Nat.le_refl _, Nat.le_refl _⟩ dX3_answerByLooking_74 (fun r18 g19 H locs h20 hH => ?_)
    rw [h20.2] at hH
    rw [h20.1]
    rw [show fCost (fPlace (fMissA v z) z (fBest v z n) n (fQuo n (v 9)) (n * (v 9))) z (fBest v z n) n = fCost v z (fBest v z n) n from fCost_co (by omega) (fun j hj => ((fPlace_o (by omega) (Or.inl (by omega))).trans ((fRoom_o (Or.inl (by omega))).trans ((zu_n _ _ (by omega)).trans (zu_n _ _ (by omega))))))]
    refine lv_aload_n hx hb dX3_answerByLooking_77 rfl (lv_at hl 2 rfl) ?_
    refine gf_X3_settings X hH (by omega) q_123 dX3_answerByLooking_78 ?_
    refine lv_iconst (v := 0) hx hb dX3_answerByLooking_81 (by decide) ?_
    refine an_sets X hH (0) (by omega) dX3_answerByLooking_82 ?_
    rw [show (fPlace (fMissA v z) z (fBest v z n) n (fQuo n (v 9)) (n * (v 9))) 8 = v 8 from ((fPlace_o (by omega) (Or.inl (by omega))).trans ((fRoom_o (Or.inl (by omega))).trans ((zu_n _ _ (by omega)).trans (zu_n _ _ (by omega)))))]
    refine lv_iadd hx hb dX3_answerByLooking_83 ?_
    exact hret _ _ _ _ _ _ rfl ⟨rfl, by simp only [fMiss, fMissV, c9, if_true, if_false, Bool.false_eq_true]⟩ hH dX3_answerByLooking_84
set_option maxRecDepth 100000 in
set_option maxHeartbeats 4000000 in
theorem c_X3_answer (l : Launch) (D : va_G) (k : Nat → ClassId) (a : Nat → Nat → Nat) (g : Mem) (v : V) (z : Nat) (hz : z < 12) (n : Int32) : zI l yX3_answer cX3_answer 6 .int 5 121 D k a [.ref (a 0 0), .int (nI z), .int (n)] (zUp g 0 v) (fun r g' => r = ((fAsk v z n).1) ∧ g' = (zUp g 0 ((fAsk v z n).2))) := by
  refine zI_of (own := RX3) (by decide +kernel) rfl (Nat.le_of_ble_eq_true rfl) ?_
  intro p e s m args below meth c X Q hret hH ls hl
  obtain ⟨hx, hb, hml, hown, hts⟩ := X.1
  have hl : lv_has ls 6 [(0, .ref (a 0 0)), (1, .int (nI z)), (2, .int (n))] := hl
  have hH : zH D k a s (zUp g 0 v) s.heap [] := hH
  refine lv_aload_n hx hb dX3_answer_0 rfl (lv_at hl 0 rfl) ?_
  refine lv_iload_n hx hb dX3_answer_1 rfl (lv_at hl 1 rfl) ?_
  refine lv_iload_n hx hb dX3_answer_2 rfl (lv_at hl 2 rfl) ?_
  refine z_callVi X hH (c_X3_whyNotUsed l D k a g v (z) (by omega) n) k_X3_116 (rv_X3 X hH (by omega)) [] rfl rfl hl.1 (Nat.le_of_ble_eq_true rfl) ⟨Nat.le_of_ble_eq_true rfl, Nat.le_of_ble_eq_true rfl⟩ ⟨Nat.le_refl _, Nat.le_refl _⟩ dX3_answer_3 (fun r1 g2 H locs h3 hH => ?_)
  rw [h3.2] at hH
  rw [h3.1]
  refine lv_if_ne (tgt := 13) hx hb dX3_answer_6 (by decide) (fun c4 => ?_) (fun c4 => ?_)
  · refine lv_iconst (v := 0) hx hb dX3_answer_13 (by decide) ?_
    refine lv_istore_n (lv' := [(3, .int 0), (0, .ref (a 0 0)), (1, .int (nI z)), (2, .int (n))]) hx hb dX3_answer_14 rfl hl (by decide) rfl (fun ls hl => ?_)
    refine lv_aload_n hx hb dX3_answer_15 rfl (lv_at hl 1 rfl) ?_
    refine lv_dup hx hb dX3_answer_16 rfl ?_
    refine gn_X3_questions X hH q_125 dX3_answer_17 ?_
    refine lv_iconst (v := 1) hx hb dX3_answer_20 (by decide) ?_
    refine lv_iadd hx hb dX3_answer_21 ?_
    refine pn_X3_questions X hH q_125 dX3_answer_22 (fun H locs hH => ?_)
    refine lv_iload_n hx hb dX3_answer_25 rfl (lv_at hl 0 rfl) ?_
    refine lv_if_eq (tgt := 38) hx hb dX3_answer_26 (by decide) (fun _ => ?_) (fun q => absurd (by decide) q)
    refine lv_aload_n hx hb dX3_answer_38 rfl (lv_at hl 1 rfl) ?_
    refine lv_iload_n hx hb dX3_answer_39 rfl (lv_at hl 2 rfl) ?_
    refine lv_iload_n hx hb dX3_answer_40 rfl (lv_at hl 3 rfl) ?_
    refine z_callVi X hH (c_X3_answerByLooking l D k a g (upd v 145 ((v 145) + 1)) (z) (by omega) n) k_X3_122 (rv_X3 X hH (by omega)) [] rfl rfl hl.1 (Nat.le_of_ble_eq_true rfl) ⟨Nat.le_of_ble_eq_true rfl, Nat.le_of_ble_eq_true rfl⟩ ⟨Nat.le_refl _, Nat.le_refl _⟩ dX3_answer_41 (fun r5 g6 H locs h7 hH => ?_)
    rw [h7.2] at hH
    rw [h7.1]
    refine lv_istore (lv' := [(4, .int ((fMiss (upd v 145 ((v 145) + 1)) z n).1)), (3, .int 0), (0, .ref (a 0 0)), (1, .int (nI z)), (2, .int (n))]) hx hb dX3_answer_44 hl (by decide) rfl (fun ls hl => ?_)
    refine lv_aload_n hx hb dX3_answer_46 rfl (lv_at hl 2 rfl) ?_
    refine lv_dup hx hb dX3_answer_47 rfl ?_
    refine gn_X3_spent X hH q_131 dX3_answer_48 ?_
    refine lv_iload hx hb dX3_answer_51 (lv_at hl 0 rfl) ?_
    refine lv_iadd hx hb dX3_answer_53 ?_
    refine pn_X3_spent X hH q_131 dX3_answer_54 (fun H locs hH => ?_)
    refine lv_aload_n hx hb dX3_answer_57 rfl (lv_at hl 2 rfl) ?_
    refine lv_iload_n hx hb dX3_answer_58 rfl (lv_at hl 3 rfl) ?_
    refine z_callVr X hH (c_X3_tableUnder l D k a (zUp g 0 (upd ((fMiss (upd v 145 ((v 145) + 1)) z n).2) 148 ((((fMiss (upd v 145 ((v 145) + 1)) z n).2) 148) + ((fMiss (upd v 145 ((v 145) + 1)) z n).1)))) (z) (by omega)) k_X3_64 (rv_X3 X hH (by omega)) [] rfl rfl hl.1 (Nat.le_of_ble_eq_true rfl) ⟨Nat.le_of_ble_eq_true rfl, Nat.le_of_ble_eq_true rfl⟩ ⟨Nat.le_refl _, Nat.le_refl _⟩ dX3_answer_59 (fun H locs hH => ?_)
    refine lv_astore (lv' := [(5, .ref (a 0 (4 + z / 3))), (4, .int ((fMiss (upd v 145 ((v 145) + 1)) z n).1)), (3, .int 0), (0, .ref (a 0 0)), (1, .int (nI z)), (2, .int (n))]) hx hb dX3_answer_62 hl (by decide) rfl (fun ls hl => ?_)
    refine lv_aload hx hb dX3_answer_64 (lv_at hl 0 rfl) ?_
    refine lv_dup hx hb dX3_answer_66 rfl ?_
    refine gn_X4_questions X hH (by omega) q_43 dX3_answer_67 ?_
    rw [show (upd ((fMiss (upd v 145 ((v 145) + 1)) z n).2) 148 ((((fMiss (upd v 145 ((v 145) + 1)) z n).2) 148) + ((fMiss (upd v 145 ((v 145) + 1)) z n).1))) (152 + (z / 3)) = ((fMiss (upd v 145 ((v 145) + 1)) z n).2) (152 + (z / 3)) from (zu_n _ _ (by omega))]
    refine lv_iconst (v := 1) hx hb dX3_answer_70 (by decide) ?_
    refine lv_iadd hx hb dX3_answer_71 ?_
    refine pn_X4_questions X hH (by omega) q_43 dX3_answer_72 (fun H locs hH => ?_)
    refine lv_aload hx hb dX3_answer_75 (lv_at hl 0 rfl) ?_
    refine lv_dup hx hb dX3_answer_77 rfl ?_
    refine gn_X4_spent X hH (by omega) q_46 dX3_answer_78 ?_
    rw [show (upd (upd ((fMiss (upd v 145 ((v 145) + 1)) z n).2) 148 ((((fMiss (upd v 145 ((v 145) + 1)) z n).2) 148) + ((fMiss (upd v 145 ((v 145) + 1)) z n).1))) (152 + (z / 3)) ((((fMiss (upd v 145 ((v 145) + 1)) z n).2) (152 + (z / 3))) + 1)) (156 + (z / 3)) = ((fMiss (upd v 145 ((v 145) + 1)) z n).2) (156 + (z / 3)) from ((zu_n _ _ (by omega)).trans (zu_n _ _ (by omega)))]
    refine lv_iload hx hb dX3_answer_81 (lv_at hl 1 rfl) ?_
    refine lv_iadd hx hb dX3_answer_83 ?_
    refine pn_X4_spent X hH (by omega) q_46 dX3_answer_84 (fun H locs hH => ?_)
    refine lv_iload hx hb dX3_answer_87 (lv_at hl 1 rfl) ?_
    exact hret _ _ _ _ _ _ rfl ⟨by simp only [fAsk, fAskQ, c4, if_true, if_false], by simp only [fAsk, fAskQ, c4, if_true, if_false]⟩ hH dX3_answer_89
  · refine lv_iconst (v := 1) hx hb dX3_answer_9 (by decide) ?_
    refine lv_goto (tgt := 14) hx hb dX3_answer_10 (by decide) ?_
    refine lv_istore_n (lv' := [(3, .int 1), (0, .ref (a 0 0)), (1, .int (nI z)), (2, .int (n))]) hx hb dX3_answer_14 rfl hl (by decide) rfl (fun ls hl => ?_)
    refine lv_aload_n hx hb dX3_answer_15 rfl (lv_at hl 1 rfl) ?_
    refine lv_dup hx hb dX3_answer_16 rfl ?_
    refine gn_X3_questions X hH q_125 dX3_answer_17 ?_
    refine lv_iconst (v := 1) hx hb dX3_answer_20 (by decide) ?_
    refine lv_iadd hx hb dX3_answer_21 ?_
    refine pn_X3_questions X hH q_125 dX3_answer_22 (fun H locs hH => ?_)
    refine lv_iload_n hx hb dX3_answer_25 rfl (lv_at hl 0 rfl) ?_
    refine lv_if_eq (tgt := 38) hx hb dX3_answer_26 (by decide) (fun q => absurd q (by decide)) (fun _ => ?_)
    refine lv_aload_n hx hb dX3_answer_29 rfl (lv_at hl 1 rfl) ?_
    refine lv_iload_n hx hb dX3_answer_30 rfl (lv_at hl 2 rfl) ?_
    refine lv_iload_n hx hb dX3_answer_31 rfl (lv_at hl 3 rfl) ?_
    refine z_callVi X hH (c_X3_answerByPlan l D k a g (upd v 145 ((v 145) + 1)) (z) (by omega) n) k_X3_119 (rv_X3 X hH (by omega)) [] rfl rfl hl.1 (Nat.le_of_ble_eq_true rfl) ⟨Nat.le_of_ble_eq_true rfl, Nat.le_of_ble_eq_true rfl⟩ ⟨Nat.le_refl _, Nat.le_refl _⟩ dX3_answer_32 (fun r8 g9 H locs h10 hH => ?_)
    rw [h10.2] at hH
    rw [h10.1]
    refine lv_goto (tgt := 44) hx hb dX3_answer_35 (by decide) ?_
    refine lv_istore (lv' := [(4, .int ((fHit (upd v 145 ((v 145) + 1)) z n).1)), (3, .int 1), (0, .ref (a 0 0)), (1, .int (nI z)), (2, .int (n))]) hx hb dX3_answer_44 hl (by decide) rfl (fun ls hl => ?_)
    refine lv_aload_n hx hb dX3_answer_46 rfl (lv_at hl 2 rfl) ?_
    refine lv_dup hx hb dX3_answer_47 rfl ?_
    refine gn_X3_spent X hH q_131 dX3_answer_48 ?_
    refine lv_iload hx hb dX3_answer_51 (lv_at hl 0 rfl) ?_
    refine lv_iadd hx hb dX3_answer_53 ?_
    refine pn_X3_spent X hH q_131 dX3_answer_54 (fun H locs hH => ?_)
    refine lv_aload_n hx hb dX3_answer_57 rfl (lv_at hl 2 rfl) ?_
    refine lv_iload_n hx hb dX3_answer_58 rfl (lv_at hl 3 rfl) ?_
    refine z_callVr X hH (c_X3_tableUnder l D k a (zUp g 0 (upd ((fHit (upd v 145 ((v 145) + 1)) z n).2) 148 ((((fHit (upd v 145 ((v 145) + 1)) z n).2) 148) + ((fHit (upd v 145 ((v 145) + 1)) z n).1)))) (z) (by omega)) k_X3_64 (rv_X3 X hH (by omega)) [] rfl rfl hl.1 (Nat.le_of_ble_eq_true rfl) ⟨Nat.le_of_ble_eq_true rfl, Nat.le_of_ble_eq_true rfl⟩ ⟨Nat.le_refl _, Nat.le_refl _⟩ dX3_answer_59 (fun H locs hH => ?_)
    refine lv_astore (lv' := [(5, .ref (a 0 (4 + z / 3))), (4, .int ((fHit (upd v 145 ((v 145) + 1)) z n).1)), (3, .int 1), (0, .ref (a 0 0)), (1, .int (nI z)), (2, .int (n))]) hx hb dX3_answer_62 hl (by decide) rfl (fun ls hl => ?_)
    refine lv_aload hx hb dX3_answer_64 (lv_at hl 0 rfl) ?_
    refine lv_dup hx hb dX3_answer_66 rfl ?_
    refine gn_X4_questions X hH (by omega) q_43 dX3_answer_67 ?_
    rw [show (upd ((fHit (upd v 145 ((v 145) + 1)) z n).2) 148 ((((fHit (upd v 145 ((v 145) + 1)) z n).2) 148) + ((fHit (upd v 145 ((v 145) + 1)) z n).1))) (152 + (z / 3)) = ((fHit (upd v 145 ((v 145) + 1)) z n).2) (152 + (z / 3)) from (zu_n _ _ (by omega))]
    refine lv_iconst (v := 1) hx hb dX3_answer_70 (by decide) ?_
    refine lv_iadd hx hb dX3_answer_71 ?_
    refine pn_X4_questions X hH (by omega) q_43 dX3_answer_72 (fun H locs hH => ?_)
    refine lv_aload hx hb dX3_answer_75 (lv_at hl 0 rfl) ?_
    refine lv_dup hx hb dX3_answer_77 rfl ?_
    refine gn_X4_spent X hH (by omega) q_46 dX3_answer_78 ?_
    rw [show (upd (upd ((fHit (upd v 145 ((v 145) + 1)) z n).2) 148 ((((fHit (upd v 145 ((v 145) + 1)) z n).2) 148) + ((fHit (upd v 145 ((v 145) + 1)) z n).1))) (152 + (z / 3)) ((((fHit (upd v 145 ((v 145) + 1)) z n).2) (152 + (z / 3))) + 1)) (156 + (z / 3)) = ((fHit (upd v 145 ((v 145) + 1)) z n).2) (156 + (z / 3)) from ((zu_n _ _ (by omega)).trans (zu_n _ _ (by omega)))]
    refine lv_iload hx hb dX3_answer_81 (lv_at hl 1 rfl) ?_
    refine lv_iadd hx hb dX3_answer_83 ?_
    refine pn_X4_spent X hH (by omega) q_46 dX3_answer_84 (fun H locs hH => ?_)
    refine lv_iload hx hb dX3_answer_87 (lv_at hl 1 rfl) ?_
    exact hret _ _ _ _ _ _ rfl ⟨by simp only [fAsk, fAskQ, c4, if_true, if_false], by simp only [fAsk, fAskQ, c4, if_true, if_false]⟩ hH dX3_answer_89
end
section
set_option maxRecDepth 100000 in
set_option maxHeartbeats 4000000 in
theorem c_X4_copyFrom (l : Launch) (D : va_G) (k : Nat → ClassId) (a : Nat → Nat → Nat) (g : Mem) (v : V) (i j : Nat) (hi : i < 6) (hj : j < 6) (hij : j ≠ i) (t : Nat) (ht : t < 4) : zV l yX4_copyFrom cX4_copyFrom 2 0 0 D k a [.ref (a i (4 + t)), .ref (a j (4 + t))] (zUp g i v) (fun g' => g' = (zUp g i (cpT v (g j) t))) := by
  refine zV_of (own := RX4) (by decide +kernel) rfl (Nat.le_of_ble_eq_true rfl) ?_
  intro p e s m args below meth c X Q hret hH ls hl
  obtain ⟨hx, hb, hml, hown, hts⟩ := X.1
  have hl : lv_has ls 2 [(0, .ref (a i (4 + t))), (1, .ref (a j (4 + t)))] := hl
  have hH : zH D k a s (zUp g i v) s.heap [] := hH
  refine lv_aload_n hx hb dX4_copyFrom_0 rfl (lv_at hl 0 rfl) ?_
  refine lv_aload_n hx hb dX4_copyFrom_1 rfl (lv_at hl 1 rfl) ?_
  refine g2_X4_rows X hi hj hij (by omega) hH q_36 dX4_copyFrom_2 ?_
  refine p2_X4_rows X hi (by omega) hH q_36 dX4_copyFrom_5 (fun H locs hH => ?_)
  refine lv_aload_n hx hb dX4_copyFrom_8 rfl (lv_at hl 0 rfl) ?_
  refine lv_aload_n hx hb dX4_copyFrom_9 rfl (lv_at hl 1 rfl) ?_
  refine g2_X4_keys X hi hj hij (by omega) hH q_39 dX4_copyFrom_10 ?_
  refine p2_X4_keys X hi (by omega) hH q_39 dX4_copyFrom_13 (fun H locs hH => ?_)
  refine lv_aload_n hx hb dX4_copyFrom_16 rfl (lv_at hl 0 rfl) ?_
  refine lv_aload_n hx hb dX4_copyFrom_17 rfl (lv_at hl 1 rfl) ?_
  refine g2_X4_questions X hi hj hij (by omega) hH q_42 dX4_copyFrom_18 ?_
  refine p2_X4_questions X hi (by omega) hH q_42 dX4_copyFrom_21 (fun H locs hH => ?_)
  refine lv_aload_n hx hb dX4_copyFrom_24 rfl (lv_at hl 0 rfl) ?_
  refine lv_aload_n hx hb dX4_copyFrom_25 rfl (lv_at hl 1 rfl) ?_
  refine g2_X4_spent X hi hj hij (by omega) hH q_45 dX4_copyFrom_26 ?_
  refine p2_X4_spent X hi (by omega) hH q_45 dX4_copyFrom_29 (fun H locs hH => ?_)
  exact hret _ _ _ _ _ (rfl) hH dX4_copyFrom_32
set_option maxRecDepth 100000 in
set_option maxHeartbeats 4000000 in
theorem c_X1_copyFrom (l : Launch) (D : va_G) (k : Nat → ClassId) (a : Nat → Nat → Nat) (g : Mem) (v : V) (i j : Nat) (hi : i < 6) (hj : j < 6) (hij : j ≠ i) (t : Nat) (ht : t < 12) (hf : zFl (g j)) : zV l yX1_copyFrom cX1_copyFrom 2 0 0 D k a [.ref (a i (8 + t)), .ref (a j (8 + t))] (zUp g i v) (fun g' => g' = (zUp g i (cpP v (g j) t))) := by
  refine zV_of (own := RX1) (by decide +kernel) rfl (Nat.le_of_ble_eq_true rfl) ?_
  intro p e s m args below meth c X Q hret hH ls hl
  obtain ⟨hx, hb, hml, hown, hts⟩ := X.1
  have hl : lv_has ls 2 [(0, .ref (a i (8 + t))), (1, .ref (a j (8 + t)))] := hl
  have hH : zH D k a s (zUp g i v) s.heap [] := hH
  refine lv_aload_n hx hb dX1_copyFrom_0 rfl (lv_at hl 0 rfl) ?_
  refine lv_aload_n hx hb dX1_copyFrom_1 rfl (lv_at hl 1 rfl) ?_
  refine g2_X1_kept X hi hj hij (by omega) hH q_63 dX1_copyFrom_2 ?_
  refine p2_X1_kept X hi (by omega) hH (hf t (by omega)).1 q_63 dX1_copyFrom_5 (fun H locs hH => ?_)
  refine lv_aload_n hx hb dX1_copyFrom_8 rfl (lv_at hl 0 rfl) ?_
  refine lv_aload_n hx hb dX1_copyFrom_9 rfl (lv_at hl 1 rfl) ?_
  refine g2_X1_pinned X hi hj hij (by omega) hH q_66 dX1_copyFrom_10 ?_
  refine p2_X1_pinned X hi (by omega) hH (hf t (by omega)).2 q_66 dX1_copyFrom_13 (fun H locs hH => ?_)
  refine lv_aload_n hx hb dX1_copyFrom_16 rfl (lv_at hl 0 rfl) ?_
  refine lv_aload_n hx hb dX1_copyFrom_17 rfl (lv_at hl 1 rfl) ?_
  refine g2_X1_way X hi hj hij (by omega) hH q_69 dX1_copyFrom_18 ?_
  refine p2_X1_way X hi (by omega) hH q_69 dX1_copyFrom_21 (fun H locs hH => ?_)
  refine lv_aload_n hx hb dX1_copyFrom_24 rfl (lv_at hl 0 rfl) ?_
  refine lv_aload_n hx hb dX1_copyFrom_25 rfl (lv_at hl 1 rfl) ?_
  refine g2_X1_least X hi hj hij (by omega) hH q_72 dX1_copyFrom_26 ?_
  refine p2_X1_least X hi (by omega) hH q_72 dX1_copyFrom_29 (fun H locs hH => ?_)
  refine lv_aload_n hx hb dX1_copyFrom_32 rfl (lv_at hl 0 rfl) ?_
  refine lv_aload_n hx hb dX1_copyFrom_33 rfl (lv_at hl 1 rfl) ?_
  refine g2_X1_most X hi hj hij (by omega) hH q_75 dX1_copyFrom_34 ?_
  refine p2_X1_most X hi (by omega) hH q_75 dX1_copyFrom_37 (fun H locs hH => ?_)
  refine lv_aload_n hx hb dX1_copyFrom_40 rfl (lv_at hl 0 rfl) ?_
  refine lv_aload_n hx hb dX1_copyFrom_41 rfl (lv_at hl 1 rfl) ?_
  refine g2_X1_number X hi hj hij (by omega) hH q_78 dX1_copyFrom_42 ?_
  refine p2_X1_number X hi (by omega) hH q_78 dX1_copyFrom_45 (fun H locs hH => ?_)
  refine lv_aload_n hx hb dX1_copyFrom_48 rfl (lv_at hl 0 rfl) ?_
  refine lv_aload_n hx hb dX1_copyFrom_49 rfl (lv_at hl 1 rfl) ?_
  refine g2_X1_guess X hi hj hij (by omega) hH q_81 dX1_copyFrom_50 ?_
  refine p2_X1_guess X hi (by omega) hH q_81 dX1_copyFrom_53 (fun H locs hH => ?_)
  refine lv_aload_n hx hb dX1_copyFrom_56 rfl (lv_at hl 0 rfl) ?_
  refine lv_aload_n hx hb dX1_copyFrom_57 rfl (lv_at hl 1 rfl) ?_
  refine g2_X1_rows X hi hj hij (by omega) hH q_84 dX1_copyFrom_58 ?_
  refine p2_X1_rows X hi (by omega) hH q_84 dX1_copyFrom_61 (fun H locs hH => ?_)
  refine lv_aload_n hx hb dX1_copyFrom_64 rfl (lv_at hl 0 rfl) ?_
  refine lv_aload_n hx hb dX1_copyFrom_65 rfl (lv_at hl 1 rfl) ?_
  refine g2_X1_uses X hi hj hij (by omega) hH q_87 dX1_copyFrom_66 ?_
  refine p2_X1_uses X hi (by omega) hH q_87 dX1_copyFrom_69 (fun H locs hH => ?_)
  refine lv_aload_n hx hb dX1_copyFrom_72 rfl (lv_at hl 0 rfl) ?_
  refine lv_aload_n hx hb dX1_copyFrom_73 rfl (lv_at hl 1 rfl) ?_
  refine g2_X1_madeAt X hi hj hij (by omega) hH q_90 dX1_copyFrom_74 ?_
  refine p2_X1_madeAt X hi (by omega) hH q_90 dX1_copyFrom_77 (fun H locs hH => ?_)
  refine lv_aload_n hx hb dX1_copyFrom_80 rfl (lv_at hl 0 rfl) ?_
  refine lv_aload_n hx hb dX1_copyFrom_81 rfl (lv_at hl 1 rfl) ?_
  refine g2_X1_usedAt X hi hj hij (by omega) hH q_93 dX1_copyFrom_82 ?_
  refine p2_X1_usedAt X hi (by omega) hH q_93 dX1_copyFrom_85 (fun H locs hH => ?_)
  exact hret _ _ _ _ _ (rfl) hH dX1_copyFrom_88
set_option maxRecDepth 100000 in
set_option maxHeartbeats 4000000 in
theorem c_X3_copyFrom (l : Launch) (D : va_G) (k : Nat → ClassId) (a : Nat → Nat → Nat) (g : Mem) (v : V) (i j : Nat) (hi : i < 6) (hj : j < 6) (hij : j ≠ i) (hf : zFl (g j)) : zV l yX3_copyFrom cX3_copyFrom 3 1 21 D k a [.ref (a i 0), .ref (a j 0)] (zUp g i v) (fun g' => g' = (zUp g i (cpAll v (g j)))) := by
  refine zV_of (own := RX3) (by decide +kernel) rfl (Nat.le_of_ble_eq_true rfl) ?_
  intro p e s m args below meth c X Q hret hH ls hl
  obtain ⟨hx, hb, hml, hown, hts⟩ := X.1
  have hl : lv_has ls 3 [(0, .ref (a i 0)), (1, .ref (a j 0))] := hl
  have hH : zH D k a s (zUp g i v) s.heap [] := hH
  refine lv_iconst (v := 0) hx hb dX3_copyFrom_0 (by decide) ?_
  refine lv_istore_n (lv' := [(2, .int 0), (0, .ref (a i 0)), (1, .ref (a j 0))]) hx hb dX3_copyFrom_1 rfl hl (by decide) rfl (fun ls hl => ?_)
  have Lp2 : ∀ (jx n : Nat), n + jx = 4 → ∀ (H : Heap) (locs : List Loc) (ls : Array Slot), zH D k a s (zUp g i (cpTs v (g j) n)) H locs → lv_has ls 3 [(2, .int (nI n)), (0, .ref (a i 0)), (1, .ref (a j 0))] → W p l e (zRoom 1 21) s m args below meth c H locs 0 0 Q (F0 m 2 ls []) := by
    intro jx
    induction jx with
    | zero =>
      intro n hix H locs ls hH hl
      obtain rfl : n = 4 := by omega
      refine lv_iload_n hx hb dX3_copyFrom_2 rfl (lv_at hl 0 rfl) ?_
      refine lv_iconst (v := 4) hx hb dX3_copyFrom_3 (by decide) ?_
      refine n_icmp_ge (A := 4) (B := 4) (tgt := 28) hx hb (by omega) (by omega) dX3_copyFrom_4 (by decide) (fun c1 => ?_) (fun q => absurd q (by omega))
      refine lv_iconst (v := 0) hx hb dX3_copyFrom_28 (by decide) ?_
      refine lv_istore_n (lv' := [(2, .int 0), (0, .ref (a i 0)), (1, .ref (a j 0))]) hx hb dX3_copyFrom_29 rfl hl (by decide) rfl (fun ls hl => ?_)
      have Lp30 : ∀ (jx n : Nat), n + jx = 12 → ∀ (H : Heap) (locs : List Loc) (ls : Array Slot), zH D k a s (zUp g i (cpPs (cpTs v (g j) 4) (g j) n)) H locs → lv_has ls 3 [(2, .int (nI n)), (0, .ref (a i 0)), (1, .ref (a j 0))] → W p l e (zRoom 1 21) s m args below meth c H locs 0 0 Q (F0 m 30 ls []) := by
        intro jx
        induction jx with
        | zero =>
          intro n hix H locs ls hH hl
          obtain rfl : n = 12 := by omega
          refine lv_iload_n hx hb dX3_copyFrom_30 rfl (lv_at hl 0 rfl) ?_
          refine lv_bipush (v := 12) hx hb dX3_copyFrom_31 (by decide) ?_
          refine n_icmp_ge (A := 12) (B := 12) (tgt := 57) hx hb (by omega) (by omega) dX3_copyFrom_33 (by decide) (fun c2 => ?_) (fun q => absurd q (by omega))
          refine lv_iconst (v := 0) hx hb dX3_copyFrom_57 (by decide) ?_
          refine lv_istore_n (lv' := [(2, .int 0), (0, .ref (a i 0)), (1, .ref (a j 0))]) hx hb dX3_copyFrom_58 rfl hl (by decide) rfl (fun ls hl => ?_)
          have Lp59 : ∀ (jx n : Nat), n + jx = 5 → ∀ (H : Heap) (locs : List Loc) (ls : Array Slot), zH D k a s (zUp g i (cpSs (cpPs (cpTs v (g j) 4) (g j) 12) (g j) n)) H locs → lv_has ls 3 [(2, .int (nI n)), (0, .ref (a i 0)), (1, .ref (a j 0))] → W p l e (zRoom 1 21) s m args below meth c H locs 0 0 Q (F0 m 59 ls []) := by
            intro jx
            induction jx with
            | zero =>
              intro n hix H locs ls hH hl
              obtain rfl : n = 5 := by omega
              refine lv_iload_n hx hb dX3_copyFrom_59 rfl (lv_at hl 0 rfl) ?_
              refine lv_iconst (v := 5) hx hb dX3_copyFrom_60 (by decide) ?_
              refine n_icmp_ge (A := 5) (B := 5) (tgt := 82) hx hb (by omega) (by omega) dX3_copyFrom_61 (by decide) (fun c3 => ?_) (fun q => absurd q (by omega))
              refine lv_aload_n hx hb dX3_copyFrom_82 rfl (lv_at hl 1 rfl) ?_
              refine lv_aload_n hx hb dX3_copyFrom_83 rfl (lv_at hl 2 rfl) ?_
              refine g2_X3_questions X hi hj hij hH q_125 dX3_copyFrom_84 ?_
              refine p2_X3_questions X hi hH q_125 dX3_copyFrom_87 (fun H locs hH => ?_)
              refine lv_aload_n hx hb dX3_copyFrom_90 rfl (lv_at hl 1 rfl) ?_
              refine lv_aload_n hx hb dX3_copyFrom_91 rfl (lv_at hl 2 rfl) ?_
              refine g2_X3_hits X hi hj hij hH q_127 dX3_copyFrom_92 ?_
              refine p2_X3_hits X hi hH q_127 dX3_copyFrom_95 (fun H locs hH => ?_)
              refine lv_aload_n hx hb dX3_copyFrom_98 rfl (lv_at hl 1 rfl) ?_
              refine lv_aload_n hx hb dX3_copyFrom_99 rfl (lv_at hl 2 rfl) ?_
              refine g2_X3_misses X hi hj hij hH q_129 dX3_copyFrom_100 ?_
              refine p2_X3_misses X hi hH q_129 dX3_copyFrom_103 (fun H locs hH => ?_)
              refine lv_aload_n hx hb dX3_copyFrom_106 rfl (lv_at hl 1 rfl) ?_
              refine lv_aload_n hx hb dX3_copyFrom_107 rfl (lv_at hl 2 rfl) ?_
              refine g2_X3_spent X hi hj hij hH q_131 dX3_copyFrom_108 ?_
              refine p2_X3_spent X hi hH q_131 dX3_copyFrom_111 (fun H locs hH => ?_)
              refine lv_aload_n hx hb dX3_copyFrom_114 rfl (lv_at hl 1 rfl) ?_
              refine lv_aload_n hx hb dX3_copyFrom_115 rfl (lv_at hl 2 rfl) ?_
              refine g2_X3_spentLooking X hi hj hij hH q_133 dX3_copyFrom_116 ?_
              refine p2_X3_spentLooking X hi hH q_133 dX3_copyFrom_119 (fun H locs hH => ?_)
              refine lv_aload_n hx hb dX3_copyFrom_122 rfl (lv_at hl 1 rfl) ?_
              refine lv_aload_n hx hb dX3_copyFrom_123 rfl (lv_at hl 2 rfl) ?_
              refine g2_X3_turnedBad X hi hj hij hH q_135 dX3_copyFrom_124 ?_
              refine p2_X3_turnedBad X hi hH q_135 dX3_copyFrom_127 (fun H locs hH => ?_)
              refine lv_aload_n hx hb dX3_copyFrom_130 rfl (lv_at hl 1 rfl) ?_
              refine lv_aload_n hx hb dX3_copyFrom_131 rfl (lv_at hl 2 rfl) ?_
              refine g2_X3_crowdedOut X hi hj hij hH q_137 dX3_copyFrom_132 ?_
              refine p2_X3_crowdedOut X hi hH q_137 dX3_copyFrom_135 (fun H locs hH => ?_)
              exact hret _ _ _ _ _ (rfl) hH dX3_copyFrom_138
            | succ jx ih =>
              intro n hix H locs ls hH hl
              have hi59 : n < 5 := by omega
              refine lv_iload_n hx hb dX3_copyFrom_59 rfl (lv_at hl 0 rfl) ?_
              refine lv_iconst (v := 5) hx hb dX3_copyFrom_60 (by decide) ?_
              refine n_icmp_ge (A := n) (B := 5) (tgt := 82) hx hb (by omega) (by omega) dX3_copyFrom_61 (by decide) (fun q => absurd q (by omega)) (fun c4 => ?_)
              refine lv_aload_n hx hb dX3_copyFrom_64 rfl (lv_at hl 1 rfl) ?_
              refine gf_X3_settings X hH (by omega) q_123 dX3_copyFrom_65 ?_
              refine lv_iload_n hx hb dX3_copyFrom_68 rfl (lv_at hl 0 rfl) ?_
              refine lv_aload_n hx hb dX3_copyFrom_69 rfl (lv_at hl 2 rfl) ?_
              refine gf_X3_settings X hH (by omega) q_123 dX3_copyFrom_70 ?_
              refine lv_iload_n hx hb dX3_copyFrom_73 rfl (lv_at hl 0 rfl) ?_
              refine a2_sets X hi hj hij hH (n) (by omega) dX3_copyFrom_74 ?_
              refine s2_sets X hi hH (n) (by omega) dX3_copyFrom_75 (fun H locs hH => ?_)
              refine lv_iinc (v := nI (n + 1)) (lv' := [(2, .int (nI (n + 1))), (0, .ref (a i 0)), (1, .ref (a j 0))]) hx hb dX3_copyFrom_76 hl (k := 0) rfl (z_inc1 _) (by decide) rfl (fun ls hl => ?_)
              refine lv_goto (tgt := 59) hx hb dX3_copyFrom_79 (by decide) ?_
              refine ih (n + 1) (by omega) _ _ _ ?_ ?_
              · rw [show (zUp g i (cpSs (cpPs (cpTs v (g j) 4) (g j) 12) (g j) (n + 1))) = (zUp g i (upd (cpSs (cpPs (cpTs v (g j) 4) (g j) 12) (g j) n) (8 + n) (g j (8 + n)))) from by rfl]; exact hH
              · exact lv_sub hl [0, 1, 2] rfl
          refine Lp59 (5) 0 (by omega) _ _ _ ?_ ?_
          · rw [show (zUp g i (cpSs (cpPs (cpTs v (g j) 4) (g j) 12) (g j) 0)) = (zUp g i (cpPs (cpTs v (g j) 4) (g j) 12)) from by rfl]; exact hH
          · rw [show (nI 0 : Int32) = 0 from by rfl]; exact lv_sub hl [0, 1, 2] rfl
        | succ jx ih =>
          intro n hix H locs ls hH hl
          have hi30 : n < 12 := by omega
          refine lv_iload_n hx hb dX3_copyFrom_30 rfl (lv_at hl 0 rfl) ?_
          refine lv_bipush (v := 12) hx hb dX3_copyFrom_31 (by decide) ?_
          refine n_icmp_ge (A := n) (B := 12) (tgt := 57) hx hb (by omega) (by omega) dX3_copyFrom_33 (by decide) (fun q => absurd q (by omega)) (fun c5 => ?_)
          refine lv_aload_n hx hb dX3_copyFrom_36 rfl (lv_at hl 1 rfl) ?_
          refine gf_X3_plans X hH (by omega) q_121 dX3_copyFrom_37 ?_
          refine lv_iload_n hx hb dX3_copyFrom_40 rfl (lv_at hl 0 rfl) ?_
          refine ar_plans X hH (by omega) (n) (by omega) dX3_copyFrom_41 ?_
          refine lv_aload_n hx hb dX3_copyFrom_42 rfl (lv_at hl 2 rfl) ?_
          refine gf_X3_plans X hH (by omega) q_121 dX3_copyFrom_43 ?_
          refine lv_iload_n hx hb dX3_copyFrom_46 rfl (lv_at hl 0 rfl) ?_
          refine ar_plans X hH (by omega) (n) (by omega) dX3_copyFrom_47 ?_
          refine z_callVv X hH (c_X1_copyFrom l D k a g (cpPs (cpTs v (g j) 4) (g j) n) i j hi hj hij (n) (by omega) hf) k_X3_33 (rv_X1 X hH (by omega) (by omega)) [] rfl rfl hl.1 (Nat.le_of_ble_eq_true rfl) ⟨Nat.le_of_ble_eq_true rfl, Nat.le_of_ble_eq_true rfl⟩ ⟨Nat.le_refl _, Nat.le_refl _⟩ dX3_copyFrom_48 (fun g6 H locs h7 hH => ?_)
          rw [h7] at hH
          refine lv_iinc (v := nI (n + 1)) (lv' := [(2, .int (nI (n + 1))), (0, .ref (a i 0)), (1, .ref (a j 0))]) hx hb dX3_copyFrom_51 hl (k := 0) rfl (z_inc1 _) (by decide) rfl (fun ls hl => ?_)
          refine lv_goto (tgt := 30) hx hb dX3_copyFrom_54 (by decide) ?_
          refine ih (n + 1) (by omega) _ _ _ ?_ ?_
          · rw [show (zUp g i (cpPs (cpTs v (g j) 4) (g j) (n + 1))) = (zUp g i (cpP (cpPs (cpTs v (g j) 4) (g j) n) (g j) n)) from by rfl]; exact hH
          · exact lv_sub hl [0, 1, 2] rfl
      refine Lp30 (12) 0 (by omega) _ _ _ ?_ ?_
      · rw [show (zUp g i (cpPs (cpTs v (g j) 4) (g j) 0)) = (zUp g i (cpTs v (g j) 4)) from by rfl]; exact hH
      · rw [show (nI 0 : Int32) = 0 from by rfl]; exact lv_sub hl [0, 1, 2] rfl
    | succ jx ih =>
      intro n hix H locs ls hH hl
      have hi2 : n < 4 := by omega
      refine lv_iload_n hx hb dX3_copyFrom_2 rfl (lv_at hl 0 rfl) ?_
      refine lv_iconst (v := 4) hx hb dX3_copyFrom_3 (by decide) ?_
      refine n_icmp_ge (A := n) (B := 4) (tgt := 28) hx hb (by omega) (by omega) dX3_copyFrom_4 (by decide) (fun q => absurd q (by omega)) (fun c8 => ?_)
      refine lv_aload_n hx hb dX3_copyFrom_7 rfl (lv_at hl 1 rfl) ?_
      refine gf_X3_tables X hH (by omega) q_119 dX3_copyFrom_8 ?_
      refine lv_iload_n hx hb dX3_copyFrom_11 rfl (lv_at hl 0 rfl) ?_
      refine ar_tabs X hH (by omega) (n) (by omega) dX3_copyFrom_12 ?_
      refine lv_aload_n hx hb dX3_copyFrom_13 rfl (lv_at hl 2 rfl) ?_
      refine gf_X3_tables X hH (by omega) q_119 dX3_copyFrom_14 ?_
      refine lv_iload_n hx hb dX3_copyFrom_17 rfl (lv_at hl 0 rfl) ?_
      refine ar_tabs X hH (by omega) (n) (by omega) dX3_copyFrom_18 ?_
      refine z_callVv X hH (c_X4_copyFrom l D k a g (cpTs v (g j) n) i j hi hj hij (n) (by omega)) k_X3_29 (rv_X4 X hH (by omega) (by omega)) [] rfl rfl hl.1 (Nat.le_of_ble_eq_true rfl) ⟨Nat.le_of_ble_eq_true rfl, Nat.le_of_ble_eq_true rfl⟩ ⟨Nat.le_refl _, Nat.le_refl _⟩ dX3_copyFrom_19 (fun g9 H locs h10 hH => ?_)
      rw [h10] at hH
      refine lv_iinc (v := nI (n + 1)) (lv' := [(2, .int (nI (n + 1))), (0, .ref (a i 0)), (1, .ref (a j 0))]) hx hb dX3_copyFrom_22 hl (k := 0) rfl (z_inc1 _) (by decide) rfl (fun ls hl => ?_)
      refine lv_goto (tgt := 2) hx hb dX3_copyFrom_25 (by decide) ?_
      refine ih (n + 1) (by omega) _ _ _ ?_ ?_
      · rw [show (zUp g i (cpTs v (g j) (n + 1))) = (zUp g i (cpT (cpTs v (g j) n) (g j) n)) from by rfl]; exact hH
      · exact lv_sub hl [0, 1, 2] rfl
  refine Lp2 (4) 0 (by omega) _ _ _ ?_ ?_
  · rw [show (zUp g i (cpTs v (g j) 0)) = (zUp g i v) from by rfl]; exact hH
  · rw [show (nI 0 : Int32) = 0 from by rfl]; exact lv_sub hl [0, 1, 2] rfl
end
section
set_option maxRecDepth 100000 in
set_option maxHeartbeats 4000000 in
theorem c_X0_record (l : Launch) (D : va_G) (k : Nat → ClassId) (a : Nat → Nat → Nat) (g : Mem) (x : Nat) (hx4 : x < 4) (e6 : g 6 0 = nI x) (hf : zFl (g 0)) (hjk : ∀ j, 160 ≤ j → g (2 + x) j = g 0 j) : zV l yX0_record cX0_record 2 2 43 D k a [.ref (a 6 1), .ref (a 0 0)] (g) (fun g' => g' = (zRecX g x)) := by
  refine zV_of (own := RX0) (by decide +kernel) rfl (Nat.le_of_ble_eq_true rfl) ?_
  intro p e s m args below meth c X Q hret hH ls hl
  obtain ⟨hx, hb, hml, hown, hts⟩ := X.1
  have hl : lv_has ls 2 [(0, .ref (a 6 1)), (1, .ref (a 0 0))] := hl
  have hH : zH D k a s (g) s.heap [] := hH
  refine lv_aload_n hx hb dX0_record_0 rfl (lv_at hl 0 rfl) ?_
  refine gf_X0_states X hH q_169 dX0_record_1 ?_
  refine lv_aload_n hx hb dX0_record_4 rfl (lv_at hl 0 rfl) ?_
  refine gf_X0_next X hH q_170 dX0_record_5 ?_
  rw [e6]
  refine ar_states X hH (x) (by omega) dX0_record_8 ?_
  refine lv_aload_n hx hb dX0_record_9 rfl (lv_at hl 1 rfl) ?_
  refine z_callVv X (by rw [zUp_id]; exact hH) (c_X3_copyFrom l D k a g (g (2 + x)) (2 + x) (0) (by omega) (by omega) (by omega) hf) k_X0_22 (rv_X3 X hH (by omega)) [] rfl rfl hl.1 (Nat.le_of_ble_eq_true rfl) ⟨Nat.le_of_ble_eq_true rfl, Nat.le_of_ble_eq_true rfl⟩ ⟨Nat.le_refl _, Nat.le_refl _⟩ dX0_record_10 (fun g1 H locs h2 hH => ?_)
  rw [h2] at hH
  rw [show cpAll ((g) (2 + x)) ((g) 0) = g 0 from by rw [show (g) (2 + x) = g (2 + x) from rfl, show (g) 0 = g 0 from rfl]; exact cpAll_eq hjk] at hH
  refine lv_aload_n hx hb dX0_record_13 rfl (lv_at hl 0 rfl) ?_
  refine lv_aload_n hx hb dX0_record_14 rfl (lv_at hl 0 rfl) ?_
  refine gf_X0_next X hH q_170 dX0_record_15 ?_
  rw [show (zUp g (2 + x) (g 0)) 6 0 = (g 6) 0 from (congrFun (zUp_n _ _ (by omega)) 0)]
  rw [e6]
  refine lv_iconst (v := 1) hx hb dX0_record_18 (by decide) ?_
  refine n_iadd (A := x) (B := 1) hx hb (x + 1) (by omega) dX0_record_19 ?_
  refine lv_iconst (v := 4) hx hb dX0_record_20 (by decide) ?_
  refine n_irem (A := x + 1) (B := 4) hx hb ((x + 1) % 4) rfl (by omega) (by omega) (by omega) dX0_record_21 ?_
  refine pf_X0_next X hH q_170 dX0_record_22 (fun H locs hH => ?_)
  rw [show zUp (zUp g (2 + x) (g 0)) 6 (upd ((zUp g (2 + x) (g 0)) 6) 0 (nI ((x + 1) % 4))) = zUp (zUp g (2 + x) (g 0)) 6 (upd (g 6) 0 (nI ((x + 1) % 4))) from by rw [show (zUp g (2 + x) (g 0)) 6 = g 6 from (zUp_n _ _ (by omega))]] at hH
  refine lv_aload_n hx hb dX0_record_25 rfl (lv_at hl 0 rfl) ?_
  refine lv_aload_n hx hb dX0_record_26 rfl (lv_at hl 0 rfl) ?_
  refine gf_X0_size X hH q_171 dX0_record_27 ?_
  rw [show (zUp (zUp g (2 + x) (g 0)) 6 (upd (g 6) 0 (nI ((x + 1) % 4)))) 6 1 = (g 6) 1 from ((congrFun (zUp_s _ _ _) 1).trans (zu_n _ _ (by omega)))]
  refine lv_iconst (v := 1) hx hb dX0_record_30 (by decide) ?_
  refine lv_iadd hx hb dX0_record_31 ?_
  refine lv_iconst (v := 4) hx hb dX0_record_32 (by decide) ?_
  refine z_min X q_254 hl.1 (Nat.le_of_ble_eq_true rfl) (Nat.le_of_ble_eq_true rfl) ⟨Nat.le_refl _, Nat.le_refl _⟩ dX0_record_33 ?_
  refine pf_X0_size X hH q_171 dX0_record_36 (fun H locs hH => ?_)
  rw [show zUp (zUp (zUp g (2 + x) (g 0)) 6 (upd (g 6) 0 (nI ((x + 1) % 4)))) 6 (upd ((zUp (zUp g (2 + x) (g 0)) 6 (upd (g 6) 0 (nI ((x + 1) % 4)))) 6) 1 (if 4 < ((g 6) 1) + 1 then 4 else ((g 6) 1) + 1)) = zUp (zUp g (2 + x) (g 0)) 6 (upd (upd (g 6) 0 (nI ((x + 1) % 4))) 1 (if 4 < ((g 6) 1) + 1 then 4 else ((g 6) 1) + 1)) from by rw [zUp_s, zUp_u]] at hH
  exact hret _ _ _ _ _ (rfl) hH dX0_record_39
set_option maxRecDepth 100000 in
set_option maxHeartbeats 4000000 in
theorem c_X0_takeBack (l : Launch) (D : va_G) (k : Nat → ClassId) (a : Nat → Nat → Nat) (g : Mem) (x : Nat) (hx4 : x < 4) (e6 : g 6 0 = nI x) (hf : zFl (g (2 + (x + 3) % 4))) (hjk : ∀ j, 160 ≤ j → g 0 j = g (2 + (x + 3) % 4) j) : zV l yX0_takeBack cX0_takeBack 2 2 43 D k a [.ref (a 6 1), .ref (a 0 0)] (g) (fun g' => g' = (zBackX g x)) := by
  refine zV_of (own := RX0) (by decide +kernel) rfl (Nat.le_of_ble_eq_true rfl) ?_
  intro p e s m args below meth c X Q hret hH ls hl
  obtain ⟨hx, hb, hml, hown, hts⟩ := X.1
  have hl : lv_has ls 2 [(0, .ref (a 6 1)), (1, .ref (a 0 0))] := hl
  have hH : zH D k a s (g) s.heap [] := hH
  refine lv_aload_n hx hb dX0_takeBack_0 rfl (lv_at hl 0 rfl) ?_
  refine lv_aload_n hx hb dX0_takeBack_1 rfl (lv_at hl 0 rfl) ?_
  refine gf_X0_next X hH q_170 dX0_takeBack_2 ?_
  rw [e6]
  refine lv_iconst (v := 4) hx hb dX0_takeBack_5 (by decide) ?_
  refine n_iadd (A := x) (B := 4) hx hb (x + 4) (by omega) dX0_takeBack_6 ?_
  refine lv_iconst (v := 1) hx hb dX0_takeBack_7 (by decide) ?_
  refine n_isub (A := x + 4) (B := 1) hx hb (x + 3) (by omega) dX0_takeBack_8 ?_
  refine lv_iconst (v := 4) hx hb dX0_takeBack_9 (by decide) ?_
  refine n_irem (A := x + 3) (B := 4) hx hb ((x + 3) % 4) rfl (by omega) (by omega) (by omega) dX0_takeBack_10 ?_
  refine pf_X0_next X hH q_170 dX0_takeBack_11 (fun H locs hH => ?_)
  refine lv_aload_n hx hb dX0_takeBack_14 rfl (lv_at hl 0 rfl) ?_
  refine lv_dup hx hb dX0_takeBack_15 rfl ?_
  refine gf_X0_size X hH q_171 dX0_takeBack_16 ?_
  rw [show (zUp g 6 (upd (g 6) 0 (nI ((x + 3) % 4)))) 6 1 = (g 6) 1 from ((congrFun (zUp_s _ _ _) 1).trans (zu_n _ _ (by omega)))]
  refine lv_iconst (v := 1) hx hb dX0_takeBack_19 (by decide) ?_
  refine lv_isub hx hb dX0_takeBack_20 ?_
  refine pf_X0_size X hH q_171 dX0_takeBack_21 (fun H locs hH => ?_)
  rw [show zUp (zUp g 6 (upd (g 6) 0 (nI ((x + 3) % 4)))) 6 (upd ((zUp g 6 (upd (g 6) 0 (nI ((x + 3) % 4)))) 6) 1 (((g 6) 1) - 1)) = zUp g 6 (upd (upd (g 6) 0 (nI ((x + 3) % 4))) 1 (((g 6) 1) - 1)) from by rw [zUp_s, zUp_u]] at hH
  refine lv_aload_n hx hb dX0_takeBack_24 rfl (lv_at hl 1 rfl) ?_
  refine lv_aload_n hx hb dX0_takeBack_25 rfl (lv_at hl 0 rfl) ?_
  refine gf_X0_states X hH q_169 dX0_takeBack_26 ?_
  refine lv_aload_n hx hb dX0_takeBack_29 rfl (lv_at hl 0 rfl) ?_
  refine gf_X0_next X hH q_170 dX0_takeBack_30 ?_
  rw [show (zUp g 6 (upd (upd (g 6) 0 (nI ((x + 3) % 4))) 1 (((g 6) 1) - 1))) 6 0 = nI ((x + 3) % 4) from ((congrFun (zUp_s _ _ _) 0).trans ((zu_n _ _ (by omega)).trans (zu_s _ _ _)))]
  refine ar_states X hH ((x + 3) % 4) (by omega) dX0_takeBack_33 ?_
  refine z_callVv X (by rw [zUp_id]; exact hH) (c_X3_copyFrom l D k a (zUp g 6 (upd (upd (g 6) 0 (nI ((x + 3) % 4))) 1 (((g 6) 1) - 1))) ((zUp g 6 (upd (upd (g 6) 0 (nI ((x + 3) % 4))) 1 (((g 6) 1) - 1))) 0) (0) (2 + (x + 3) % 4) (by omega) (by omega) (by omega) (by rw [show (zUp g 6 (upd (upd (g 6) 0 (nI ((x + 3) % 4))) 1 (((g 6) 1) - 1))) (2 + (x + 3) % 4) = g (2 + (x + 3) % 4) from zUp_n _ _ (by omega)]; exact hf)) k_X0_22 (rv_X3 X hH (by omega)) [] rfl rfl hl.1 (Nat.le_of_ble_eq_true rfl) ⟨Nat.le_of_ble_eq_true rfl, Nat.le_of_ble_eq_true rfl⟩ ⟨Nat.le_refl _, Nat.le_refl _⟩ dX0_takeBack_34 (fun g1 H locs h2 hH => ?_)
  rw [h2] at hH
  rw [show cpAll ((zUp g 6 (upd (upd (g 6) 0 (nI ((x + 3) % 4))) 1 (((g 6) 1) - 1))) 0) ((zUp g 6 (upd (upd (g 6) 0 (nI ((x + 3) % 4))) 1 (((g 6) 1) - 1))) (2 + (x + 3) % 4)) = g (2 + (x + 3) % 4) from by rw [show (zUp g 6 (upd (upd (g 6) 0 (nI ((x + 3) % 4))) 1 (((g 6) 1) - 1))) 0 = g 0 from (zUp_n _ _ (by omega)), show (zUp g 6 (upd (upd (g 6) 0 (nI ((x + 3) % 4))) 1 (((g 6) 1) - 1))) (2 + (x + 3) % 4) = g (2 + (x + 3) % 4) from (zUp_n _ _ (by omega))]; exact cpAll_eq hjk] at hH
  exact hret _ _ _ _ _ (rfl) hH dX0_takeBack_37
end
section
/-! the public methods: what each answers of the state's row, and the row behind an act (none: nothing is recorded) -/
abbrev okT (x : Int32) : Prop := ¬ x < 0 ∧ x < 4
abbrev okS (x : Int32) : Prop := ¬ x < 0 ∧ x < 12
abbrev okW (x : Int32) : Prop := ¬ x < 0 ∧ x < 3
abbrev okN (z : Nat) (n : Int32) : Prop := ¬ n < (if z % 3 = 0 then 0 else 1) ∧ ¬ 9999 < n
abbrev iN (x : Int32) : Nat := x.toNatClampNeg
abbrev hasP (v : V) (x : Int32) : Prop := okS x ∧ ¬ v (13 + 11 * iN x + 0) = 0
def kTable (v : V) (q x many : Int32) : Int32 × Option V :=
  if okT q then
    if many < (if x = 0 then 0 else 1) then (-2, none) else if 9999 < many then (-2, none)
    else if (if x = 0 then v (iN q) else v (4 + iN q)) = many then (-4, none)
    else (if x = 0 then v (iN q) else v (4 + iN q), some (fResize v (iN q) x many))
  else (-1, none)
def kAsk (v : V) (x n : Int32) : Int32 × Option V :=
  if okS x then if okN (iN x) n then ((fAsk v (iN x) n).1, some (fAsk v (iN x) n).2) else (-2, none) else (-1, none)
def kPin (v : V) (x b : Int32) : Int32 × Option V :=
  if hasP v x then if v (13 + 11 * iN x + 8) = b then (-4, none) else (fP (upd v (13 + 11 * iN x + 8) b) 12, some (upd v (13 + 11 * iN x + 8) b)) else (-1, none)
def kThrow (v : V) (x : Int32) : Int32 × Option V :=
  if hasP v x then (fK (upd v (13 + 11 * iN x + 0) 0) 12, some (upd v (13 + 11 * iN x + 0) 0)) else (-1, none)
def kMakeV (v : V) (x w n lo hi : Int32) : V := fPlace (fRoom v (iN x)) (iN x) w n lo hi
def kMake (v : V) (x w n lo hi : Int32) : Int32 × Option V :=
  if okS x then
    if okW w then
      if okN (iN x) n then
        if lo < 0 then (-2, none) else if 9999 < lo then (-2, none) else if hi < lo then (-2, none) else if 99999 < hi then (-2, none)
        else if fCould v (iN x) = true then (fK (kMakeV v x w n lo hi) 12, some (kMakeV v x w n lo hi)) else (-4, none)
      else (-2, none)
    else (-2, none)
  else (-1, none)
def kSet (v : V) (i x : Int32) : Int32 × Option V :=
  if i < 0 then (-1, none) else if ¬ i < 5 then (-1, none)
  else if x < zLe (iN i) then (-2, none) else if zMo (iN i) < x then (-2, none)
  else if v (8 + iN i) = x then (-4, none)
  else (v (8 + iN i), some (if i = 3 then fDown (upd v (8 + iN i) x) x else upd v (8 + iN i) x))
def kCost (v : V) (x w n : Int32) : Int32 := if okS x then if okW w then if okN (iN x) n then fCost v (iN x) w n else -2 else -2 else -1
def kCheap (v : V) (x n : Int32) : Int32 := if okS x then if okN (iN x) n then fBest v (iN x) n else -2 else -1
def kReason (v : V) (x n : Int32) : Int32 := if okS x then if okN (iN x) n then fWhy v (iN x) n else -2 else -1
def kPlan (v : V) (x w : Int32) : Int32 :=
  if hasP v x then
    if w = 0 then v (13 + 11 * iN x + 1) else if w = 1 then v (13 + 11 * iN x + 2) else if w = 2 then v (13 + 11 * iN x + 3)
    else if w = 3 then v (13 + 11 * iN x + 4) else if w = 4 then v (13 + 11 * iN x + 5) else if w = 5 then v 145 - v (13 + 11 * iN x + 6)
    else if w = 6 then (if fChanged v (iN x) = true ∨ fOld v (iN x) = true then 1 else 0) else if w = 7 then v (13 + 11 * iN x + 8)
    else if w = 8 then v (13 + 11 * iN x + 9) else if w = 9 then v 145 - v (13 + 11 * iN x + 7) else if w = 10 then v (13 + 11 * iN x + 10) else -2
  else -1
/-- what a question would do -/
def fIf (v : V) (z : Nat) (n w : Int32) : Int32 :=
  if fWhy v z n = 0 then
    (if w = 0 then fCost v z (v (13 + 11 * z + 1)) n + 0 else if w = 1 then v (13 + 11 * z + 1) else if w = 2 then (if fDear v z (fCost v z (v (13 + 11 * z + 1)) n) = true then 1 else 0)
     else if w = 3 then -4 else fCost v z (v (13 + 11 * z + 1)) n + 0 - fCost v z (fBest v z n) n)
  else
    (if w = 0 then fCost v z (fBest v z n) n + v 8 else if w = 1 then fBest v z n else if w = 2 then 0 else if w = 3 then fFirst v z
     else fCost v z (fBest v z n) n + v 8 - fCost v z (fBest v z n) n)
def kIf (v : V) (x n w : Int32) : Int32 := if okS x then if okN (iN x) n then if w < 0 then -2 else if 4 < w then -2 else fIf v (iN x) n w else -2 else -1
/-- how many of the numbers from lo on, n of them, have the way w -/
def fReach (v : V) (z : Nat) (w : Int32) (lo : Nat) : Nat → Int32
  | 0 => 0
  | n + 1 => if fBest v z (nI (lo + n)) = w then fReach v z w lo n + 1 else fReach v z w lo n
def kReach (v : V) (x w : Int32) : Int32 := if okS x then if okW w then (if iN x % 3 = 0 then fReach v (iN x) w 0 201 else fReach v (iN x) w 1 200) else -2 else -1
def kTableOf (v : V) (q w : Int32) : Int32 :=
  if okT q then
    if w = 0 then v (iN q) else if w = 1 then v (4 + iN q) else if w = 2 then fKo v (iN q) 3 else if w = 3 then v (152 + iN q) else if w = 4 then v (156 + iN q) else -2
  else -1
def kCount (v : V) (states typed w : Int32) : Int32 :=
  if w = 0 then fK v 12 else if w = 1 then fP v 12 else if w = 2 then fS v 12 else if w = 3 then v 145 else if w = 4 then v 146 else if w = 5 then v 147 else if w = 6 then v 148
  else if w = 7 then v 149 else if w = 8 then v 150 else if w = 9 then v 151 else if w = 10 then v 8 else if w = 11 then v 9 else if w = 12 then v 10 else if w = 13 then v 11
  else if w = 14 then v 12 else if w = 15 then states else if w = 16 then typed else -2
/-- an act on the class's side -/
def zAct (g : Mem) (o : Option V) : Mem := match o with
  | none => g
  | some v => zUp (zRec g) 0 v
theorem iNn {n : Nat} (h : n < 2 ^ 31) : iN (nI n) = n := nI_clamp h
theorem zIx {x : Int32} {B : Nat} {b : Int32} (hb : b = nI B) (hB : B < 2 ^ 31) (h : ¬ x < 0 ∧ x < b) : ∃ z, z < B ∧ x = nI z := by
  obtain ⟨j, hj, rfl⟩ := nI_of h.1
  subst hb
  exact ⟨j, (nI_ltI hj hB).mp h.2, rfl⟩
theorem zRec_x {g : Mem} {x : Nat} (hx : x < 4) (e : g 6 0 = nI x) : zRec g = zRecX g x := by
  unfold zRec
  rw [e, nI_clamp (by omega)]
theorem zBack_x {g : Mem} {x : Nat} (hx : x < 4) (e : g 6 0 = nI x) : zBack g = zBackX g x := by
  unfold zBack
  rw [e, nI_clamp (by omega)]
theorem zRecX_0 (g : Mem) (x : Nat) : zRecX g x 0 = g 0 := by
  unfold zRecX
  rw [zUp_n _ _ (by omega), zUp_n _ _ (by omega)]
theorem zNow {G : Mem} {v : V} (h : G 0 = v) : zUp G 0 v = G := by rw [← h, zUp_id]
end
