/-! ===== BEGIN printed: names, fields, word lists, decode rows ===== -/
def RX0 : String := "Queuefloat$Limits"
def TX0 : u_T := fun k => match k with
  | 0 => ("Queuefloat$Limits", "floorOf", "[I", true)
  | _ => ("Queuefloat$Limits", "boundOf", "[I", true)
def tyX0 : Nat → FieldType := fun k => match k with
  | 0 => .array .int
  | _ => .array .int
abbrev wsX00 : List Cond := u_ws RX0 TX0 2
theorem nmX0 : ∀ a, a < 2 → ∀ b, b < 2 → a ≠ b → (TX0 a).2.1 ≠ (TX0 b).2.1 := by decide +kernel
theorem tyX0_ok : ∀ k, k < 2 → parseFieldDescriptor (TX0 k).2.2.1 = some (tyX0 k) := by decide +kernel
abbrev cX0_init : ByteArray := prog_2_method_1_code
def yX0_init : MethodName := ⟨RX0, "<init>", "()V"⟩
abbrev cX0_allow : ByteArray := prog_2_method_2_code
def yX0_allow : MethodName := ⟨RX0, "allow", "(LQueuefloat$Sums;)Z"⟩
def RX1 : String := "Queuefloat$Loans"
def TX1 : u_T := fun k => match k with
  | 0 => ("Queuefloat$Loans", "lender", "[I", true)
  | 1 => ("Queuefloat$Loans", "borrower", "[I", true)
  | 2 => ("Queuefloat$Loans", "due", "[I", true)
  | 3 => ("Queuefloat$Loans", "pledge", "[I", true)
  | 4 => ("Queuefloat$Loans", "made", "I", false)
  | _ => ("Queuefloat$Loans", "ended", "I", false)
def tyX1 : Nat → FieldType := fun k => match k with
  | 0 => .array .int
  | 1 => .array .int
  | 2 => .array .int
  | 3 => .array .int
  | 4 => .int
  | _ => .int
abbrev wsX10 : List Cond := u_ws RX1 TX1 6
theorem nmX1 : ∀ a, a < 6 → ∀ b, b < 6 → a ≠ b → (TX1 a).2.1 ≠ (TX1 b).2.1 := by decide +kernel
theorem tyX1_ok : ∀ k, k < 6 → parseFieldDescriptor (TX1 k).2.2.1 = some (tyX1 k) := by decide +kernel
abbrev cX1_init : ByteArray := prog_3_method_1_code
def yX1_init : MethodName := ⟨RX1, "<init>", "()V"⟩
abbrev cX1_enter : ByteArray := prog_3_method_2_code
def yX1_enter : MethodName := ⟨RX1, "enter", "(IIII)I"⟩
def RX2 : String := "Queuefloat$Payments"
def TX2 : u_T := fun k => match k with
  | 0 => ("Queuefloat$Payments", "from", "[I", true)
  | 1 => ("Queuefloat$Payments", "to", "[I", true)
  | 2 => ("Queuefloat$Payments", "amount", "[I", true)
  | 3 => ("Queuefloat$Payments", "priorityOf", "[I", true)
  | 4 => ("Queuefloat$Payments", "waits", "[Z", true)
  | 5 => ("Queuefloat$Payments", "byPriority", "[I", true)
  | _ => ("Queuefloat$Payments", "made", "I", false)
def tyX2 : Nat → FieldType := fun k => match k with
  | 0 => .array .int
  | 1 => .array .int
  | 2 => .array .int
  | 3 => .array .int
  | 4 => .array .boolean
  | 5 => .array .int
  | _ => .int
abbrev wsX20 : List Cond := u_ws RX2 TX2 7
theorem nmX2 : ∀ a, a < 7 → ∀ b, b < 7 → a ≠ b → (TX2 a).2.1 ≠ (TX2 b).2.1 := by decide +kernel
theorem tyX2_ok : ∀ k, k < 7 → parseFieldDescriptor (TX2 k).2.2.1 = some (tyX2 k) := by decide +kernel
abbrev cX2_init : ByteArray := prog_4_method_1_code
def yX2_init : MethodName := ⟨RX2, "<init>", "()V"⟩
abbrev cX2_enter : ByteArray := prog_4_method_2_code
def yX2_enter : MethodName := ⟨RX2, "enter", "(IIII)I"⟩
abbrev cX2_apply : ByteArray := prog_4_method_3_code
def yX2_apply : MethodName := ⟨RX2, "apply", "(ILQueuefloat$Sums;)V"⟩
abbrev cX2_waitsAt : ByteArray := prog_4_method_4_code
def yX2_waitsAt : MethodName := ⟨RX2, "waitsAt", "(II)Z"⟩
abbrev cX2_inQueue : ByteArray := prog_4_method_5_code
def yX2_inQueue : MethodName := ⟨RX2, "inQueue", "(II)I"⟩
abbrev cX2_countWaiting : ByteArray := prog_4_method_6_code
def yX2_countWaiting : MethodName := ⟨RX2, "countWaiting", "()I"⟩
abbrev cX2_dropAllOf : ByteArray := prog_4_method_7_code
def yX2_dropAllOf : MethodName := ⟨RX2, "dropAllOf", "(I)V"⟩
def RX3 : String := "Queuefloat$Sums"
def TX3 : u_T := fun k => match k with
  | 0 => ("Queuefloat$Sums", "accountOf", "[I", true)
  | _ => ("Queuefloat$Sums", "netPaid", "[I", true)
def tyX3 : Nat → FieldType := fun k => match k with
  | 0 => .array .int
  | _ => .array .int
abbrev wsX30 : List Cond := u_ws RX3 TX3 2
theorem nmX3 : ∀ a, a < 2 → ∀ b, b < 2 → a ≠ b → (TX3 a).2.1 ≠ (TX3 b).2.1 := by decide +kernel
theorem tyX3_ok : ∀ k, k < 2 → parseFieldDescriptor (TX3 k).2.2.1 = some (tyX3 k) := by decide +kernel
abbrev cX3_init : ByteArray := prog_5_method_1_code
def yX3_init : MethodName := ⟨RX3, "<init>", "()V"⟩
abbrev cX3_move : ByteArray := prog_5_method_2_code
def yX3_move : MethodName := ⟨RX3, "move", "(III)V"⟩
abbrev cX3_notePaid : ByteArray := prog_5_method_3_code
def yX3_notePaid : MethodName := ⟨RX3, "notePaid", "(III)V"⟩
abbrev cX3_forgetPaid : ByteArray := prog_5_method_4_code
def yX3_forgetPaid : MethodName := ⟨RX3, "forgetPaid", "()V"⟩
abbrev cX3_copy : ByteArray := prog_5_method_5_code
def yX3_copy : MethodName := ⟨RX3, "copy", "(LQueuefloat$Sums;)V"⟩
def RX4 : String := "Queuefloat"
def TX4 : u_T := fun k => match k with
  | 0 => ("Queuefloat", "sums", "LQueuefloat$Sums;", true)
  | 1 => ("Queuefloat", "trial", "LQueuefloat$Sums;", true)
  | 2 => ("Queuefloat", "limits", "LQueuefloat$Limits;", true)
  | 3 => ("Queuefloat", "payments", "LQueuefloat$Payments;", true)
  | 4 => ("Queuefloat", "market", "LQueuefloat$Loans;", true)
  | 5 => ("Queuefloat", "closed", "[Z", true)
  | 6 => ("Queuefloat", "papersOf", "[I", true)
  | 7 => ("Queuefloat", "candidates", "[I", true)
  | 8 => ("Queuefloat", "small", "I", false)
  | 9 => ("Queuefloat", "paperPrice", "I", false)
  | 10 => ("Queuefloat", "paperCut", "I", false)
  | _ => ("Queuefloat", "proceeds", "I", false)
def tyX4 : Nat → FieldType := fun k => match k with
  | 0 => .object "Queuefloat$Sums"
  | 1 => .object "Queuefloat$Sums"
  | 2 => .object "Queuefloat$Limits"
  | 3 => .object "Queuefloat$Payments"
  | 4 => .object "Queuefloat$Loans"
  | 5 => .array .boolean
  | 6 => .array .int
  | 7 => .array .int
  | 8 => .int
  | 9 => .int
  | 10 => .int
  | _ => .int
abbrev wsX40 : List Cond := u_ws RX4 TX4 12
theorem nmX4 : ∀ a, a < 12 → ∀ b, b < 12 → a ≠ b → (TX4 a).2.1 ≠ (TX4 b).2.1 := by decide +kernel
theorem tyX4_ok : ∀ k, k < 12 → parseFieldDescriptor (TX4 k).2.2.1 = some (tyX4 k) := by decide +kernel
abbrev cX4_init : ByteArray := prog_1_method_1_code
def yX4_init : MethodName := ⟨RX4, "<init>", "()V"⟩
abbrev cX4_fund : ByteArray := prog_1_method_2_code
def yX4_fund : MethodName := ⟨RX4, "fund", "(II)I"⟩
abbrev cX4_setFloor : ByteArray := prog_1_method_3_code
def yX4_setFloor : MethodName := ⟨RX4, "setFloor", "(II)I"⟩
abbrev cX4_setBound : ByteArray := prog_1_method_4_code
def yX4_setBound : MethodName := ⟨RX4, "setBound", "(III)I"⟩
abbrev cX4_givePapers : ByteArray := prog_1_method_5_code
def yX4_givePapers : MethodName := ⟨RX4, "givePapers", "(II)I"⟩
abbrev cX4_account : ByteArray := prog_1_method_6_code
def yX4_account : MethodName := ⟨RX4, "account", "(I)I"⟩
abbrev cX4_papers : ByteArray := prog_1_method_7_code
def yX4_papers : MethodName := ⟨RX4, "papers", "(I)I"⟩
abbrev cX4_isOpen : ByteArray := prog_1_method_8_code
def yX4_isOpen : MethodName := ⟨RX4, "isOpen", "(I)Z"⟩
abbrev cX4_paid : ByteArray := prog_1_method_9_code
def yX4_paid : MethodName := ⟨RX4, "paid", "(II)I"⟩
abbrev cX4_pay : ByteArray := prog_1_method_10_code
def yX4_pay : MethodName := ⟨RX4, "pay", "(IIII)I"⟩
abbrev cX4_drop : ByteArray := prog_1_method_11_code
def yX4_drop : MethodName := ⟨RX4, "drop", "(I)I"⟩
abbrev cX4_setSmall : ByteArray := prog_1_method_12_code
def yX4_setSmall : MethodName := ⟨RX4, "setSmall", "(I)I"⟩
abbrev cX4_run : ByteArray := prog_1_method_13_code
def yX4_run : MethodName := ⟨RX4, "run", "()I"⟩
abbrev cX4_queued : ByteArray := prog_1_method_14_code
def yX4_queued : MethodName := ⟨RX4, "queued", "(II)I"⟩
abbrev cX4_why : ByteArray := prog_1_method_15_code
def yX4_why : MethodName := ⟨RX4, "why", "(I)I"⟩
abbrev cX4_canAny : ByteArray := prog_1_method_16_code
def yX4_canAny : MethodName := ⟨RX4, "canAny", "()Z"⟩
abbrev cX4_setPrice : ByteArray := prog_1_method_17_code
def yX4_setPrice : MethodName := ⟨RX4, "setPrice", "(II)V"⟩
abbrev cX4_lend : ByteArray := prog_1_method_18_code
def yX4_lend : MethodName := ⟨RX4, "lend", "(IIIII)I"⟩
abbrev cX4_loans : ByteArray := prog_1_method_19_code
def yX4_loans : MethodName := ⟨RX4, "loans", "()I"⟩
abbrev cX4_morning : ByteArray := prog_1_method_20_code
def yX4_morning : MethodName := ⟨RX4, "morning", "()I"⟩
abbrev cX4_sold : ByteArray := prog_1_method_21_code
def yX4_sold : MethodName := ⟨RX4, "sold", "()I"⟩
abbrev cX4_requireBank : ByteArray := prog_1_method_22_code
def yX4_requireBank : MethodName := ⟨RX4, "requireBank", "(I)V"⟩
abbrev cX4_requireTwo : ByteArray := prog_1_method_23_code
def yX4_requireTwo : MethodName := ⟨RX4, "requireTwo", "(II)V"⟩
abbrev cX4_requireRange : ByteArray := prog_1_method_24_code
def yX4_requireRange : MethodName := ⟨RX4, "requireRange", "(III)V"⟩
abbrev cX4_requireOpen : ByteArray := prog_1_method_25_code
def yX4_requireOpen : MethodName := ⟨RX4, "requireOpen", "(I)V"⟩
abbrev cX4_requirePayment : ByteArray := prog_1_method_26_code
def yX4_requirePayment : MethodName := ⟨RX4, "requirePayment", "(I)V"⟩
abbrev cX4_requireLoanable : ByteArray := prog_1_method_27_code
def yX4_requireLoanable : MethodName := ⟨RX4, "requireLoanable", "(IIII)V"⟩
abbrev cX4_pairOf : ByteArray := prog_1_method_28_code
def yX4_pairOf : MethodName := ⟨RX4, "pairOf", "(II)I"⟩
abbrev cX4_obstacle : ByteArray := prog_1_method_29_code
def yX4_obstacle : MethodName := ⟨RX4, "obstacle", "(I)I"⟩
abbrev cX4_send : ByteArray := prog_1_method_30_code
def yX4_send : MethodName := ⟨RX4, "send", "(I)V"⟩
abbrev cX4_goThroughBanks : ByteArray := prog_1_method_31_code
def yX4_goThroughBanks : MethodName := ⟨RX4, "goThroughBanks", "()I"⟩
abbrev cX4_nextToGo : ByteArray := prog_1_method_32_code
def yX4_nextToGo : MethodName := ⟨RX4, "nextToGo", "(I)I"⟩
abbrev cX4_firstSmallFree : ByteArray := prog_1_method_33_code
def yX4_firstSmallFree : MethodName := ⟨RX4, "firstSmallFree", "(I)I"⟩
abbrev cX4_sendLargestSet : ByteArray := prog_1_method_34_code
def yX4_sendLargestSet : MethodName := ⟨RX4, "sendLargestSet", "()I"⟩
abbrev cX4_listWaiting : ByteArray := prog_1_method_35_code
def yX4_listWaiting : MethodName := ⟨RX4, "listWaiting", "()I"⟩
abbrev cX4_canGoTogether : ByteArray := prog_1_method_36_code
def yX4_canGoTogether : MethodName := ⟨RX4, "canGoTogether", "(II)Z"⟩
abbrev cX4_isIn : ByteArray := prog_1_method_37_code
def yX4_isIn : MethodName := ⟨RX4, "isIn", "(II)Z"⟩
abbrev cX4_pledgeWorth : ByteArray := prog_1_method_38_code
def yX4_pledgeWorth : MethodName := ⟨RX4, "pledgeWorth", "(I)I"⟩
abbrev cX4_canRepay : ByteArray := prog_1_method_39_code
def yX4_canRepay : MethodName := ⟨RX4, "canRepay", "(I)Z"⟩
abbrev cX4_repay : ByteArray := prog_1_method_40_code
def yX4_repay : MethodName := ⟨RX4, "repay", "(I)V"⟩
abbrev cX4_close : ByteArray := prog_1_method_41_code
def yX4_close : MethodName := ⟨RX4, "close", "(I)I"⟩
abbrev cX4_sellPledge : ByteArray := prog_1_method_42_code
def yX4_sellPledge : MethodName := ⟨RX4, "sellPledge", "(I)V"⟩
def RX5 : String := "QueuefloatModel"
def TX5 : u_T := fun k => match k with
  | _ => ("", "", "", false)
def tyX5 : Nat → FieldType := fun k => match k with
  | _ => .int
abbrev wsX50 : List Cond := u_ws RX5 TX5 0
theorem nmX5 : ∀ a, a < 0 → ∀ b, b < 0 → a ≠ b → (TX5 a).2.1 ≠ (TX5 b).2.1 := by decide +kernel
theorem tyX5_ok : ∀ k, k < 0 → parseFieldDescriptor (TX5 k).2.2.1 = some (tyX5 k) := by decide +kernel
def RJ6 : String := "java/lang/Integer"
def TJ6 : u_T := fun k => match k with
  | _ => ("", "", "", false)
def tyJ6 : Nat → FieldType := fun k => match k with
  | _ => .int
abbrev wsJ60 : List Cond := u_ws RJ6 TJ6 0
theorem nmJ6 : ∀ a, a < 0 → ∀ b, b < 0 → a ≠ b → (TJ6 a).2.1 ≠ (TJ6 b).2.1 := by decide +kernel
theorem tyJ6_ok : ∀ k, k < 0 → parseFieldDescriptor (TJ6 k).2.2.1 = some (tyJ6 k) := by decide +kernel
abbrev cJ6_bitCount_0f7a4 : ByteArray := prog_12_method_49_code
def yJ6_bitCount_0f7a4 : MethodName := ⟨RJ6, "bitCount", "(I)I"⟩
def RJ9 : String := "java/lang/Math"
def TJ9 : u_T := fun k => match k with
  | _ => ("", "", "", false)
def tyJ9 : Nat → FieldType := fun k => match k with
  | _ => .int
abbrev wsJ90 : List Cond := u_ws RJ9 TJ9 0
theorem nmJ9 : ∀ a, a < 0 → ∀ b, b < 0 → a ≠ b → (TJ9 a).2.1 ≠ (TJ9 b).2.1 := by decide +kernel
theorem tyJ9_ok : ∀ k, k < 0 → parseFieldDescriptor (TJ9 k).2.2.1 = some (tyJ9 k) := by decide +kernel
abbrev cJ9_max_7cf53 : ByteArray := prog_13_method_65_code
def yJ9_max_7cf53 : MethodName := ⟨RJ9, "max", "(II)I"⟩
abbrev cJ9_min_7cf53 : ByteArray := prog_13_method_69_code
def yJ9_min_7cf53 : MethodName := ⟨RJ9, "min", "(II)I"⟩
def RJ0 : String := "java/lang/String"
def TJ0 : u_T := fun k => match k with
  | _ => ("", "", "", false)
def tyJ0 : Nat → FieldType := fun k => match k with
  | _ => .int
abbrev wsJ00 : List Cond := u_ws RJ0 TJ0 0
theorem nmJ0 : ∀ a, a < 0 → ∀ b, b < 0 → a ≠ b → (TJ0 a).2.1 ≠ (TJ0 b).2.1 := by decide +kernel
theorem tyJ0_ok : ∀ k, k < 0 → parseFieldDescriptor (TJ0 k).2.2.1 = some (tyJ0 k) := by decide +kernel
def RJ10 : String := "java/lang/System"
def TJ10 : u_T := fun k => match k with
  | _ => ("", "", "", false)
def tyJ10 : Nat → FieldType := fun k => match k with
  | _ => .int
abbrev wsJ100 : List Cond := u_ws RJ10 TJ10 0
theorem nmJ10 : ∀ a, a < 0 → ∀ b, b < 0 → a ≠ b → (TJ10 a).2.1 ≠ (TJ10 b).2.1 := by decide +kernel
theorem tyJ10_ok : ∀ k, k < 0 → parseFieldDescriptor (TJ10 k).2.2.1 = some (tyJ10 k) := by decide +kernel
def RL : String := "QueuefloatLaw"
abbrev cL_cell : ByteArray := method_2_code
def yL_cell : MethodName := ⟨RL, "cell", "([II)I"⟩
abbrev cL_some : ByteArray := method_3_code
def yL_some : MethodName := ⟨RL, "some", "(II)I"⟩
abbrev cL_call : ByteArray := method_4_code
def yL_call : MethodName := ⟨RL, "call", "(LQueuefloat;IIIII)I"⟩
abbrev cL_lend : ByteArray := method_5_code
def yL_lend : MethodName := ⟨RL, "lend", "(LQueuefloat;IIIII)I"⟩
abbrev cL_does : ByteArray := method_6_code
def yL_does : MethodName := ⟨RL, "does", "(LQueuefloat;IIIII)I"⟩
abbrev cL_all : ByteArray := method_7_code
def yL_all : MethodName := ⟨RL, "all", "(LQueuefloat;I)J"⟩
abbrev cL_kept : ByteArray := method_8_code
def yL_kept : MethodName := ⟨RL, "kept", "(LQueuefloat;I)Z"⟩
abbrev cL_sets : ByteArray := method_9_code
def yL_sets : MethodName := ⟨RL, "sets", "(LQueuefloat;IIIZ)Z"⟩
abbrev cL_pays : ByteArray := method_10_code
def yL_pays : MethodName := ⟨RL, "pays", "(LQueuefloat;IIIZ)I"⟩
abbrev cL_runs : ByteArray := method_11_code
def yL_runs : MethodName := ⟨RL, "runs", "(LQueuefloat;I)Z"⟩
abbrev cL_lends : ByteArray := method_12_code
def yL_lends : MethodName := ⟨RL, "lends", "(LQueuefloat;IIIZ)Z"⟩
abbrev cL_comes : ByteArray := method_13_code
def yL_comes : MethodName := ⟨RL, "comes", "(LQueuefloat;I)Z"⟩
abbrev cL_law : ByteArray := code
def yL_law : MethodName := ⟨RL, "law", "([I)Z"⟩
def wsX0_init : List Cond := .code yX0_init cX0_init 2 none :: ([.methodLink RX0 3 objectInit, .instanceMethod objectInit, .code objectInit ⟨#[0xb1]⟩ 1 none, .arrayClass .int, .fieldLink RX0 9 "Queuefloat$Limits" "floorOf" "[I", .fieldLink RX0 15 "Queuefloat$Limits" "boundOf" "[I", .constant RX0 18 (1000000)] ++ wsX00)
def wsX0_allow : List Cond := .code yX0_allow cX0_allow 3 (some .boolean) :: ([.fieldLink RX0 19 "Queuefloat$Sums" "accountOf" "[I", .fieldLink RX0 9 "Queuefloat$Limits" "floorOf" "[I", .fieldLink RX0 24 "Queuefloat$Sums" "netPaid" "[I", .fieldLink RX0 15 "Queuefloat$Limits" "boundOf" "[I"] ++ wsX30 ++ wsX00)
def wsX1_init : List Cond := .code yX1_init cX1_init 1 none :: ([.methodLink RX1 3 objectInit, .instanceMethod objectInit, .code objectInit ⟨#[0xb1]⟩ 1 none, .arrayClass .int, .fieldLink RX1 9 "Queuefloat$Loans" "lender" "[I", .fieldLink RX1 15 "Queuefloat$Loans" "borrower" "[I", .fieldLink RX1 18 "Queuefloat$Loans" "due" "[I", .fieldLink RX1 21 "Queuefloat$Loans" "pledge" "[I"] ++ wsX10)
def wsX1_enter : List Cond := .code yX1_enter cX1_enter 6 (some .int) :: ([.fieldLink RX1 24 "Queuefloat$Loans" "made" "I", .fieldLink RX1 9 "Queuefloat$Loans" "lender" "[I", .fieldLink RX1 15 "Queuefloat$Loans" "borrower" "[I", .fieldLink RX1 18 "Queuefloat$Loans" "due" "[I", .fieldLink RX1 21 "Queuefloat$Loans" "pledge" "[I"] ++ wsX10)
def wsX2_init : List Cond := .code yX2_init cX2_init 1 none :: ([.methodLink RX2 3 objectInit, .instanceMethod objectInit, .code objectInit ⟨#[0xb1]⟩ 1 none, .arrayClass .int, .fieldLink RX2 9 "Queuefloat$Payments" "from" "[I", .fieldLink RX2 15 "Queuefloat$Payments" "to" "[I", .fieldLink RX2 18 "Queuefloat$Payments" "amount" "[I", .fieldLink RX2 21 "Queuefloat$Payments" "priorityOf" "[I", .arrayClass .boolean, .fieldLink RX2 24 "Queuefloat$Payments" "waits" "[Z", .fieldLink RX2 28 "Queuefloat$Payments" "byPriority" "[I"] ++ wsX20)
def wsX2_enter : List Cond := .code yX2_enter cX2_enter 7 (some .int) :: ([.fieldLink RX2 31 "Queuefloat$Payments" "made" "I", .fieldLink RX2 9 "Queuefloat$Payments" "from" "[I", .fieldLink RX2 15 "Queuefloat$Payments" "to" "[I", .fieldLink RX2 18 "Queuefloat$Payments" "amount" "[I", .fieldLink RX2 21 "Queuefloat$Payments" "priorityOf" "[I", .fieldLink RX2 24 "Queuefloat$Payments" "waits" "[Z", .fieldLink RX2 28 "Queuefloat$Payments" "byPriority" "[I"] ++ wsX20)
def wsX3_move : List Cond := .code yX3_move cX3_move 4 none :: ([.fieldLink RX3 9 "Queuefloat$Sums" "accountOf" "[I"] ++ wsX30)
def wsX4_pairOf : List Cond := .code yX4_pairOf cX4_pairOf 2 (some .int) :: ([])
def wsX3_notePaid : List Cond := .code yX3_notePaid cX3_notePaid 4 none :: ([.fieldLink RX3 15 "Queuefloat$Sums" "netPaid" "[I", .static yX4_pairOf, .initialized RX4, .code yX4_pairOf cX4_pairOf 2 (some .int)] ++ wsX30)
def wsX2_apply : List Cond := .code yX2_apply cX2_apply 3 none :: ([.fieldLink RX2 9 "Queuefloat$Payments" "from" "[I", .fieldLink RX2 15 "Queuefloat$Payments" "to" "[I", .fieldLink RX2 18 "Queuefloat$Payments" "amount" "[I", .methodLink RX2 35 yX3_move, .instanceMethod yX3_move, .selects RX3 yX3_move yX3_move, .initialized RX3, .code yX3_move cX3_move 4 none, .fieldLink RX3 9 "Queuefloat$Sums" "accountOf" "[I", .methodLink RX2 41 yX3_notePaid, .instanceMethod yX3_notePaid, .selects RX3 yX3_notePaid yX3_notePaid, .code yX3_notePaid cX3_notePaid 4 none, .fieldLink RX3 15 "Queuefloat$Sums" "netPaid" "[I", .static yX4_pairOf, .initialized RX4, .code yX4_pairOf cX4_pairOf 2 (some .int)] ++ wsX20 ++ wsX30)
def wsX2_waitsAt : List Cond := .code yX2_waitsAt cX2_waitsAt 3 (some .boolean) :: ([.fieldLink RX2 24 "Queuefloat$Payments" "waits" "[Z", .fieldLink RX2 9 "Queuefloat$Payments" "from" "[I"] ++ wsX20)
def wsX2_inQueue : List Cond := .code yX2_inQueue cX2_inQueue 5 (some .int) :: ([.fieldLink RX2 31 "Queuefloat$Payments" "made" "I", .fieldLink RX2 28 "Queuefloat$Payments" "byPriority" "[I", .methodLink RX2 44 yX2_waitsAt, .instanceMethod yX2_waitsAt, .selects RX2 yX2_waitsAt yX2_waitsAt, .initialized RX2, .code yX2_waitsAt cX2_waitsAt 3 (some .boolean), .fieldLink RX2 24 "Queuefloat$Payments" "waits" "[Z", .fieldLink RX2 9 "Queuefloat$Payments" "from" "[I"] ++ wsX20)
def wsX2_countWaiting : List Cond := .code yX2_countWaiting cX2_countWaiting 3 (some .int) :: ([.fieldLink RX2 31 "Queuefloat$Payments" "made" "I", .fieldLink RX2 24 "Queuefloat$Payments" "waits" "[Z"] ++ wsX20)
def wsX2_dropAllOf : List Cond := .code yX2_dropAllOf cX2_dropAllOf 3 none :: ([.fieldLink RX2 31 "Queuefloat$Payments" "made" "I", .fieldLink RX2 9 "Queuefloat$Payments" "from" "[I", .fieldLink RX2 15 "Queuefloat$Payments" "to" "[I", .fieldLink RX2 24 "Queuefloat$Payments" "waits" "[Z"] ++ wsX20)
def wsX3_init : List Cond := .code yX3_init cX3_init 1 none :: ([.methodLink RX3 3 objectInit, .instanceMethod objectInit, .code objectInit ⟨#[0xb1]⟩ 1 none, .arrayClass .int, .fieldLink RX3 9 "Queuefloat$Sums" "accountOf" "[I", .fieldLink RX3 15 "Queuefloat$Sums" "netPaid" "[I"] ++ wsX30)
def wsX3_forgetPaid : List Cond := .code yX3_forgetPaid cX3_forgetPaid 2 none :: ([.fieldLink RX3 15 "Queuefloat$Sums" "netPaid" "[I"] ++ wsX30)
def wsX3_copy : List Cond := .code yX3_copy cX3_copy 2 none :: ([.fieldLink RX3 9 "Queuefloat$Sums" "accountOf" "[I", .methodLink RX3 22 arraycopyName, .native arraycopyName, .static arraycopyName, .initialized "java/lang/System", .fieldLink RX3 15 "Queuefloat$Sums" "netPaid" "[I"] ++ wsX30)
def wsX4_init_r1 : List Cond := [Cond.methodLink RX4 1 objectInit, Cond.instanceMethod objectInit, Cond.code objectInit ⟨#[0xb1]⟩ 1 none, Cond.classLink RX4 7 RX3, Cond.instantiable RX3 2, Cond.initialized RX3, Cond.fieldLink RX4 10 "Queuefloat" "sums" "LQueuefloat$Sums;", Cond.fieldLink RX4 16 "Queuefloat" "trial" "LQueuefloat$Sums;", Cond.classLink RX4 19 RX0, Cond.instantiable RX0 2, Cond.initialized RX0, Cond.fieldLink RX4 22 "Queuefloat" "limits" "LQueuefloat$Limits;", Cond.classLink RX4 26 RX2, Cond.instantiable RX2 7, Cond.initialized RX2, Cond.fieldLink RX4 29 "Queuefloat" "payments" "LQueuefloat$Payments;", Cond.classLink RX4 33 RX1, Cond.instantiable RX1 6, Cond.initialized RX1, Cond.fieldLink RX4 36 "Queuefloat" "market" "LQueuefloat$Loans;", Cond.arrayClass .boolean, Cond.fieldLink RX4 40 "Queuefloat" "closed" "[Z", Cond.arrayClass .int, Cond.fieldLink RX4 44 "Queuefloat" "papersOf" "[I"]
def wsX4_init_r2 : List Cond := [Cond.fieldLink RX4 48 "Queuefloat" "candidates" "[I", Cond.fieldLink RX4 51 "Queuefloat" "small" "I", Cond.fieldLink RX4 55 "Queuefloat" "paperPrice" "I", Cond.fieldLink RX4 58 "Queuefloat" "paperCut" "I", Cond.methodLink RX4 9 yX3_init, Cond.instanceMethod yX3_init, Cond.code yX3_init cX3_init 1 none, Cond.methodLink RX3 3 objectInit, Cond.fieldLink RX3 9 "Queuefloat$Sums" "accountOf" "[I", Cond.fieldLink RX3 15 "Queuefloat$Sums" "netPaid" "[I", Cond.methodLink RX4 21 yX0_init, Cond.instanceMethod yX0_init, Cond.code yX0_init cX0_init 2 none, Cond.methodLink RX0 3 objectInit, Cond.fieldLink RX0 9 "Queuefloat$Limits" "floorOf" "[I", Cond.fieldLink RX0 15 "Queuefloat$Limits" "boundOf" "[I", Cond.constant RX0 18 (1000000), Cond.methodLink RX4 28 yX2_init, Cond.instanceMethod yX2_init, Cond.code yX2_init cX2_init 1 none, Cond.methodLink RX2 3 objectInit, Cond.fieldLink RX2 9 "Queuefloat$Payments" "from" "[I", Cond.fieldLink RX2 15 "Queuefloat$Payments" "to" "[I", Cond.fieldLink RX2 18 "Queuefloat$Payments" "amount" "[I"]
def wsX4_init_r3 : List Cond := [Cond.fieldLink RX2 21 "Queuefloat$Payments" "priorityOf" "[I", Cond.fieldLink RX2 24 "Queuefloat$Payments" "waits" "[Z", Cond.fieldLink RX2 28 "Queuefloat$Payments" "byPriority" "[I", Cond.methodLink RX4 35 yX1_init, Cond.instanceMethod yX1_init, Cond.code yX1_init cX1_init 1 none, Cond.methodLink RX1 3 objectInit, Cond.fieldLink RX1 9 "Queuefloat$Loans" "lender" "[I", Cond.fieldLink RX1 15 "Queuefloat$Loans" "borrower" "[I", Cond.fieldLink RX1 18 "Queuefloat$Loans" "due" "[I", Cond.fieldLink RX1 21 "Queuefloat$Loans" "pledge" "[I"]
def wsX4_init : List Cond := .code yX4_init cX4_init 1 none :: ((wsX4_init_r1 ++ (wsX4_init_r2 ++ wsX4_init_r3)) ++ wsX30 ++ wsX40 ++ wsX00 ++ wsX20 ++ wsX10)
def wsX4_requireBank : List Cond := .code yX4_requireBank cX4_requireBank 1 none :: ([.classLink RX4 140 "java/lang/IndexOutOfBoundsException", .initialized "java/lang/IndexOutOfBoundsException"] ++ (vx_atS RX4 144 "java/lang/IndexOutOfBoundsException" ["java/lang/RuntimeException", "java/lang/Exception"]).filter goodWord)
def wsX4_requireRange : List Cond := .code yX4_requireRange cX4_requireRange 3 none :: ([.classLink RX4 197 "java/lang/IllegalArgumentException", .initialized "java/lang/IllegalArgumentException"] ++ (vx_atS RX4 201 "java/lang/IllegalArgumentException" ["java/lang/RuntimeException", "java/lang/Exception"]).filter goodWord)
def wsX4_requireOpen : List Cond := .code yX4_requireOpen cX4_requireOpen 2 none :: ([.classLink RX4 77 "java/lang/IllegalStateException", .initialized "java/lang/IllegalStateException", .fieldLink RX4 40 "Queuefloat" "closed" "[Z"] ++ wsX40 ++ (vx_atS RX4 81 "java/lang/IllegalStateException" ["java/lang/RuntimeException", "java/lang/Exception"]).filter goodWord)
def wsX4_fund : List Cond := .code yX4_fund cX4_fund 3 (some .int) :: ([.classLink RX4 77 "java/lang/IllegalStateException", .initialized "java/lang/IllegalStateException", .constant RX4 65 (1000000), .fieldLink RX4 10 "Queuefloat" "sums" "LQueuefloat$Sums;", .fieldLink RX4 73 "Queuefloat$Sums" "accountOf" "[I", .constant RX4 76 (100000000), .methodLink RX4 61 yX4_requireBank, .static yX4_requireBank, .initialized RX4, .code yX4_requireBank cX4_requireBank 1 none, .classLink RX4 140 "java/lang/IndexOutOfBoundsException", .initialized "java/lang/IndexOutOfBoundsException", .methodLink RX4 66 yX4_requireRange, .static yX4_requireRange, .code yX4_requireRange cX4_requireRange 3 none, .classLink RX4 197 "java/lang/IllegalArgumentException", .initialized "java/lang/IllegalArgumentException", .methodLink RX4 70 yX4_requireOpen, .instanceMethod yX4_requireOpen, .selects RX4 yX4_requireOpen yX4_requireOpen, .code yX4_requireOpen cX4_requireOpen 2 none, .fieldLink RX4 40 "Queuefloat" "closed" "[Z"] ++ wsX40 ++ wsX30 ++ (vx_atS RX4 81 "java/lang/IllegalStateException" ["java/lang/RuntimeException", "java/lang/Exception"]).filter goodWord ++ (vx_atS RX4 144 "java/lang/IndexOutOfBoundsException" ["java/lang/RuntimeException", "java/lang/Exception"]).filter goodWord ++ (vx_atS RX4 201 "java/lang/IllegalArgumentException" ["java/lang/RuntimeException", "java/lang/Exception"]).filter goodWord)
def wsX4_setFloor : List Cond := .code yX4_setFloor cX4_setFloor 4 (some .int) :: ([.constant RX4 84 (-1000000), .fieldLink RX4 10 "Queuefloat" "sums" "LQueuefloat$Sums;", .fieldLink RX4 73 "Queuefloat$Sums" "accountOf" "[I", .methodLink RX4 85 Lib.Math.min.name, .static Lib.Math.min.name, .initialized "java/lang/Math", .code Lib.Math.min.name Lib.Math.min.code 2 (some .int), .fieldLink RX4 22 "Queuefloat" "limits" "LQueuefloat$Limits;", .fieldLink RX4 91 "Queuefloat$Limits" "floorOf" "[I", .methodLink RX4 61 yX4_requireBank, .static yX4_requireBank, .initialized RX4, .code yX4_requireBank cX4_requireBank 1 none, .classLink RX4 140 "java/lang/IndexOutOfBoundsException", .initialized "java/lang/IndexOutOfBoundsException", .methodLink RX4 66 yX4_requireRange, .static yX4_requireRange, .code yX4_requireRange cX4_requireRange 3 none, .classLink RX4 197 "java/lang/IllegalArgumentException", .initialized "java/lang/IllegalArgumentException"] ++ wsX40 ++ wsX30 ++ wsX00 ++ (vx_atS RX4 144 "java/lang/IndexOutOfBoundsException" ["java/lang/RuntimeException", "java/lang/Exception"]).filter goodWord ++ (vx_atS RX4 201 "java/lang/IllegalArgumentException" ["java/lang/RuntimeException", "java/lang/Exception"]).filter goodWord)
def wsX4_requireTwo : List Cond := .code yX4_requireTwo cX4_requireTwo 2 none :: ([.classLink RX4 197 "java/lang/IllegalArgumentException", .initialized "java/lang/IllegalArgumentException"] ++ (vx_atS RX4 201 "java/lang/IllegalArgumentException" ["java/lang/RuntimeException", "java/lang/Exception"]).filter goodWord)
def wsX4_setBound_r1 : List Cond := [Cond.fieldLink RX4 10 "Queuefloat" "sums" "LQueuefloat$Sums;", Cond.fieldLink RX4 101 "Queuefloat$Sums" "netPaid" "[I", Cond.methodLink RX4 104 Lib.Math.max.name, Cond.static Lib.Math.max.name, Cond.initialized "java/lang/Math", Cond.code Lib.Math.max.name Lib.Math.max.code 2 (some .int), Cond.constant RX4 65 (1000000), Cond.fieldLink RX4 22 "Queuefloat" "limits" "LQueuefloat$Limits;", Cond.fieldLink RX4 107 "Queuefloat$Limits" "boundOf" "[I", Cond.methodLink RX4 61 yX4_requireBank, Cond.static yX4_requireBank, Cond.initialized RX4, Cond.code yX4_requireBank cX4_requireBank 1 none, Cond.classLink RX4 140 "java/lang/IndexOutOfBoundsException", Cond.initialized "java/lang/IndexOutOfBoundsException", Cond.methodLink RX4 94 yX4_requireTwo, Cond.static yX4_requireTwo, Cond.code yX4_requireTwo cX4_requireTwo 2 none, Cond.classLink RX4 197 "java/lang/IllegalArgumentException", Cond.initialized "java/lang/IllegalArgumentException", Cond.methodLink RX4 98 yX4_pairOf, Cond.static yX4_pairOf, Cond.code yX4_pairOf cX4_pairOf 2 (some .int), Cond.methodLink RX4 66 yX4_requireRange]
def wsX4_setBound_r2 : List Cond := [Cond.static yX4_requireRange, Cond.code yX4_requireRange cX4_requireRange 3 none]
def wsX4_setBound : List Cond := .code yX4_setBound cX4_setBound 6 (some .int) :: ((wsX4_setBound_r1 ++ wsX4_setBound_r2) ++ wsX40 ++ wsX30 ++ wsX00 ++ (vx_atS RX4 144 "java/lang/IndexOutOfBoundsException" ["java/lang/RuntimeException", "java/lang/Exception"]).filter goodWord ++ (vx_atS RX4 201 "java/lang/IllegalArgumentException" ["java/lang/RuntimeException", "java/lang/Exception"]).filter goodWord)
def wsX4_givePapers : List Cond := .code yX4_givePapers cX4_givePapers 3 (some .int) :: ([.classLink RX4 77 "java/lang/IllegalStateException", .initialized "java/lang/IllegalStateException", .fieldLink RX4 44 "Queuefloat" "papersOf" "[I", .constant RX4 110 (100000), .methodLink RX4 61 yX4_requireBank, .static yX4_requireBank, .initialized RX4, .code yX4_requireBank cX4_requireBank 1 none, .classLink RX4 140 "java/lang/IndexOutOfBoundsException", .initialized "java/lang/IndexOutOfBoundsException", .methodLink RX4 66 yX4_requireRange, .static yX4_requireRange, .code yX4_requireRange cX4_requireRange 3 none, .classLink RX4 197 "java/lang/IllegalArgumentException", .initialized "java/lang/IllegalArgumentException", .methodLink RX4 70 yX4_requireOpen, .instanceMethod yX4_requireOpen, .selects RX4 yX4_requireOpen yX4_requireOpen, .code yX4_requireOpen cX4_requireOpen 2 none, .fieldLink RX4 40 "Queuefloat" "closed" "[Z"] ++ wsX40 ++ (vx_atS RX4 81 "java/lang/IllegalStateException" ["java/lang/RuntimeException", "java/lang/Exception"]).filter goodWord ++ (vx_atS RX4 144 "java/lang/IndexOutOfBoundsException" ["java/lang/RuntimeException", "java/lang/Exception"]).filter goodWord ++ (vx_atS RX4 201 "java/lang/IllegalArgumentException" ["java/lang/RuntimeException", "java/lang/Exception"]).filter goodWord)
def wsX4_account : List Cond := .code yX4_account cX4_account 2 (some .int) :: ([.fieldLink RX4 10 "Queuefloat" "sums" "LQueuefloat$Sums;", .fieldLink RX4 73 "Queuefloat$Sums" "accountOf" "[I", .methodLink RX4 61 yX4_requireBank, .static yX4_requireBank, .initialized RX4, .code yX4_requireBank cX4_requireBank 1 none, .classLink RX4 140 "java/lang/IndexOutOfBoundsException", .initialized "java/lang/IndexOutOfBoundsException"] ++ wsX40 ++ wsX30 ++ (vx_atS RX4 144 "java/lang/IndexOutOfBoundsException" ["java/lang/RuntimeException", "java/lang/Exception"]).filter goodWord)
def wsX4_papers : List Cond := .code yX4_papers cX4_papers 2 (some .int) :: ([.fieldLink RX4 44 "Queuefloat" "papersOf" "[I", .methodLink RX4 61 yX4_requireBank, .static yX4_requireBank, .initialized RX4, .code yX4_requireBank cX4_requireBank 1 none, .classLink RX4 140 "java/lang/IndexOutOfBoundsException", .initialized "java/lang/IndexOutOfBoundsException"] ++ wsX40 ++ (vx_atS RX4 144 "java/lang/IndexOutOfBoundsException" ["java/lang/RuntimeException", "java/lang/Exception"]).filter goodWord)
def wsX4_isOpen : List Cond := .code yX4_isOpen cX4_isOpen 2 (some .boolean) :: ([.fieldLink RX4 40 "Queuefloat" "closed" "[Z", .methodLink RX4 61 yX4_requireBank, .static yX4_requireBank, .initialized RX4, .code yX4_requireBank cX4_requireBank 1 none, .classLink RX4 140 "java/lang/IndexOutOfBoundsException", .initialized "java/lang/IndexOutOfBoundsException"] ++ wsX40 ++ (vx_atS RX4 144 "java/lang/IndexOutOfBoundsException" ["java/lang/RuntimeException", "java/lang/Exception"]).filter goodWord)
def wsX4_paid : List Cond := .code yX4_paid cX4_paid 3 (some .int) :: ([.fieldLink RX4 10 "Queuefloat" "sums" "LQueuefloat$Sums;", .fieldLink RX4 101 "Queuefloat$Sums" "netPaid" "[I", .methodLink RX4 61 yX4_requireBank, .static yX4_requireBank, .initialized RX4, .code yX4_requireBank cX4_requireBank 1 none, .classLink RX4 140 "java/lang/IndexOutOfBoundsException", .initialized "java/lang/IndexOutOfBoundsException", .methodLink RX4 98 yX4_pairOf, .static yX4_pairOf, .code yX4_pairOf cX4_pairOf 2 (some .int)] ++ wsX40 ++ wsX30 ++ (vx_atS RX4 144 "java/lang/IndexOutOfBoundsException" ["java/lang/RuntimeException", "java/lang/Exception"]).filter goodWord)
def wsX4_pay_r1 : List Cond := [Cond.classLink RX4 77 "java/lang/IllegalStateException", Cond.initialized "java/lang/IllegalStateException", Cond.constant RX4 110 (100000), Cond.fieldLink RX4 29 "Queuefloat" "payments" "LQueuefloat$Payments;", Cond.fieldLink RX4 113 "Queuefloat$Payments" "made" "I", Cond.methodLink RX4 61 yX4_requireBank, Cond.static yX4_requireBank, Cond.initialized RX4, Cond.code yX4_requireBank cX4_requireBank 1 none, Cond.classLink RX4 140 "java/lang/IndexOutOfBoundsException", Cond.initialized "java/lang/IndexOutOfBoundsException", Cond.methodLink RX4 94 yX4_requireTwo, Cond.static yX4_requireTwo, Cond.code yX4_requireTwo cX4_requireTwo 2 none, Cond.classLink RX4 197 "java/lang/IllegalArgumentException", Cond.initialized "java/lang/IllegalArgumentException", Cond.methodLink RX4 66 yX4_requireRange, Cond.static yX4_requireRange, Cond.code yX4_requireRange cX4_requireRange 3 none, Cond.methodLink RX4 70 yX4_requireOpen, Cond.instanceMethod yX4_requireOpen, Cond.selects RX4 yX4_requireOpen yX4_requireOpen, Cond.code yX4_requireOpen cX4_requireOpen 2 none, Cond.fieldLink RX4 40 "Queuefloat" "closed" "[Z"]
def wsX4_pay_r2 : List Cond := [Cond.methodLink RX4 118 yX2_enter, Cond.instanceMethod yX2_enter, Cond.selects RX2 yX2_enter yX2_enter, Cond.initialized RX2, Cond.code yX2_enter cX2_enter 7 (some .int), Cond.fieldLink RX2 31 "Queuefloat$Payments" "made" "I", Cond.fieldLink RX2 9 "Queuefloat$Payments" "from" "[I", Cond.fieldLink RX2 15 "Queuefloat$Payments" "to" "[I", Cond.fieldLink RX2 18 "Queuefloat$Payments" "amount" "[I", Cond.fieldLink RX2 21 "Queuefloat$Payments" "priorityOf" "[I", Cond.fieldLink RX2 24 "Queuefloat$Payments" "waits" "[Z", Cond.fieldLink RX2 28 "Queuefloat$Payments" "byPriority" "[I"]
def wsX4_pay : List Cond := .code yX4_pay cX4_pay 5 (some .int) :: ((wsX4_pay_r1 ++ wsX4_pay_r2) ++ wsX40 ++ wsX20 ++ (vx_atS RX4 81 "java/lang/IllegalStateException" ["java/lang/RuntimeException", "java/lang/Exception"]).filter goodWord ++ (vx_atS RX4 144 "java/lang/IndexOutOfBoundsException" ["java/lang/RuntimeException", "java/lang/Exception"]).filter goodWord ++ (vx_atS RX4 201 "java/lang/IllegalArgumentException" ["java/lang/RuntimeException", "java/lang/Exception"]).filter goodWord)
def wsX4_requirePayment : List Cond := .code yX4_requirePayment cX4_requirePayment 2 none :: ([.classLink RX4 140 "java/lang/IndexOutOfBoundsException", .initialized "java/lang/IndexOutOfBoundsException", .fieldLink RX4 29 "Queuefloat" "payments" "LQueuefloat$Payments;", .fieldLink RX4 113 "Queuefloat$Payments" "made" "I"] ++ wsX40 ++ wsX20 ++ (vx_atS RX4 144 "java/lang/IndexOutOfBoundsException" ["java/lang/RuntimeException", "java/lang/Exception"]).filter goodWord)
def wsX4_drop : List Cond := .code yX4_drop cX4_drop 2 (some .int) :: ([.classLink RX4 77 "java/lang/IllegalStateException", .initialized "java/lang/IllegalStateException", .fieldLink RX4 29 "Queuefloat" "payments" "LQueuefloat$Payments;", .fieldLink RX4 125 "Queuefloat$Payments" "waits" "[Z", .methodLink RX4 122 yX4_requirePayment, .instanceMethod yX4_requirePayment, .selects RX4 yX4_requirePayment yX4_requirePayment, .initialized RX4, .code yX4_requirePayment cX4_requirePayment 2 none, .classLink RX4 140 "java/lang/IndexOutOfBoundsException", .initialized "java/lang/IndexOutOfBoundsException", .fieldLink RX4 113 "Queuefloat$Payments" "made" "I", .methodLink RX4 130 yX2_countWaiting, .instanceMethod yX2_countWaiting, .selects RX2 yX2_countWaiting yX2_countWaiting, .initialized RX2, .code yX2_countWaiting cX2_countWaiting 3 (some .int), .fieldLink RX2 31 "Queuefloat$Payments" "made" "I", .fieldLink RX2 24 "Queuefloat$Payments" "waits" "[Z"] ++ wsX40 ++ wsX20 ++ (vx_atS RX4 81 "java/lang/IllegalStateException" ["java/lang/RuntimeException", "java/lang/Exception"]).filter goodWord ++ (vx_atS RX4 144 "java/lang/IndexOutOfBoundsException" ["java/lang/RuntimeException", "java/lang/Exception"]).filter goodWord)
def wsX4_setSmall : List Cond := .code yX4_setSmall cX4_setSmall 3 (some .int) :: ([.constant RX4 110 (100000), .fieldLink RX4 51 "Queuefloat" "small" "I", .methodLink RX4 66 yX4_requireRange, .static yX4_requireRange, .initialized RX4, .code yX4_requireRange cX4_requireRange 3 none, .classLink RX4 197 "java/lang/IllegalArgumentException", .initialized "java/lang/IllegalArgumentException"] ++ wsX40 ++ (vx_atS RX4 201 "java/lang/IllegalArgumentException" ["java/lang/RuntimeException", "java/lang/Exception"]).filter goodWord)
def wsX4_obstacle : List Cond := .code yX4_obstacle cX4_obstacle 5 (some .int) :: ([.fieldLink RX4 29 "Queuefloat" "payments" "LQueuefloat$Payments;", .fieldLink RX4 125 "Queuefloat$Payments" "waits" "[Z", .fieldLink RX4 217 "Queuefloat$Payments" "from" "[I", .fieldLink RX4 220 "Queuefloat$Payments" "amount" "[I", .fieldLink RX4 10 "Queuefloat" "sums" "LQueuefloat$Sums;", .fieldLink RX4 73 "Queuefloat$Sums" "accountOf" "[I", .fieldLink RX4 22 "Queuefloat" "limits" "LQueuefloat$Limits;", .fieldLink RX4 91 "Queuefloat$Limits" "floorOf" "[I", .fieldLink RX4 223 "Queuefloat$Payments" "to" "[I", .fieldLink RX4 101 "Queuefloat$Sums" "netPaid" "[I", .fieldLink RX4 107 "Queuefloat$Limits" "boundOf" "[I", .methodLink RX4 98 yX4_pairOf, .static yX4_pairOf, .initialized RX4, .code yX4_pairOf cX4_pairOf 2 (some .int)] ++ wsX40 ++ wsX20 ++ wsX30 ++ wsX00)
def wsX4_firstSmallFree_r1 : List Cond := [Cond.fieldLink RX4 29 "Queuefloat" "payments" "LQueuefloat$Payments;", Cond.fieldLink RX4 113 "Queuefloat$Payments" "made" "I", Cond.fieldLink RX4 239 "Queuefloat$Payments" "byPriority" "[I", Cond.fieldLink RX4 220 "Queuefloat$Payments" "amount" "[I", Cond.fieldLink RX4 51 "Queuefloat" "small" "I", Cond.methodLink RX4 242 yX2_waitsAt, Cond.instanceMethod yX2_waitsAt, Cond.selects RX2 yX2_waitsAt yX2_waitsAt, Cond.initialized RX2, Cond.code yX2_waitsAt cX2_waitsAt 3 (some .boolean), Cond.fieldLink RX2 24 "Queuefloat$Payments" "waits" "[Z", Cond.fieldLink RX2 9 "Queuefloat$Payments" "from" "[I", Cond.methodLink RX4 148 yX4_obstacle, Cond.instanceMethod yX4_obstacle, Cond.selects RX4 yX4_obstacle yX4_obstacle, Cond.initialized RX4, Cond.code yX4_obstacle cX4_obstacle 5 (some .int), Cond.fieldLink RX4 125 "Queuefloat$Payments" "waits" "[Z", Cond.fieldLink RX4 217 "Queuefloat$Payments" "from" "[I", Cond.fieldLink RX4 10 "Queuefloat" "sums" "LQueuefloat$Sums;", Cond.fieldLink RX4 73 "Queuefloat$Sums" "accountOf" "[I", Cond.fieldLink RX4 22 "Queuefloat" "limits" "LQueuefloat$Limits;", Cond.fieldLink RX4 91 "Queuefloat$Limits" "floorOf" "[I", Cond.fieldLink RX4 223 "Queuefloat$Payments" "to" "[I"]
def wsX4_firstSmallFree_r2 : List Cond := [Cond.fieldLink RX4 101 "Queuefloat$Sums" "netPaid" "[I", Cond.fieldLink RX4 107 "Queuefloat$Limits" "boundOf" "[I", Cond.methodLink RX4 98 yX4_pairOf, Cond.static yX4_pairOf, Cond.code yX4_pairOf cX4_pairOf 2 (some .int)]
def wsX4_firstSmallFree : List Cond := .code yX4_firstSmallFree cX4_firstSmallFree 4 (some .int) :: ((wsX4_firstSmallFree_r1 ++ wsX4_firstSmallFree_r2) ++ wsX40 ++ wsX20 ++ wsX30 ++ wsX00)
def wsX4_nextToGo_r1 : List Cond := [Cond.fieldLink RX4 29 "Queuefloat" "payments" "LQueuefloat$Payments;", Cond.methodLink RX4 145 yX2_inQueue, Cond.instanceMethod yX2_inQueue, Cond.selects RX2 yX2_inQueue yX2_inQueue, Cond.initialized RX2, Cond.code yX2_inQueue cX2_inQueue 5 (some .int), Cond.fieldLink RX2 31 "Queuefloat$Payments" "made" "I", Cond.fieldLink RX2 28 "Queuefloat$Payments" "byPriority" "[I", Cond.methodLink RX2 44 yX2_waitsAt, Cond.instanceMethod yX2_waitsAt, Cond.selects RX2 yX2_waitsAt yX2_waitsAt, Cond.code yX2_waitsAt cX2_waitsAt 3 (some .boolean), Cond.fieldLink RX2 24 "Queuefloat$Payments" "waits" "[Z", Cond.fieldLink RX2 9 "Queuefloat$Payments" "from" "[I", Cond.methodLink RX4 148 yX4_obstacle, Cond.instanceMethod yX4_obstacle, Cond.selects RX4 yX4_obstacle yX4_obstacle, Cond.initialized RX4, Cond.code yX4_obstacle cX4_obstacle 5 (some .int), Cond.fieldLink RX4 125 "Queuefloat$Payments" "waits" "[Z", Cond.fieldLink RX4 217 "Queuefloat$Payments" "from" "[I", Cond.fieldLink RX4 220 "Queuefloat$Payments" "amount" "[I", Cond.fieldLink RX4 10 "Queuefloat" "sums" "LQueuefloat$Sums;", Cond.fieldLink RX4 73 "Queuefloat$Sums" "accountOf" "[I"]
def wsX4_nextToGo_r2 : List Cond := [Cond.fieldLink RX4 22 "Queuefloat" "limits" "LQueuefloat$Limits;", Cond.fieldLink RX4 91 "Queuefloat$Limits" "floorOf" "[I", Cond.fieldLink RX4 223 "Queuefloat$Payments" "to" "[I", Cond.fieldLink RX4 101 "Queuefloat$Sums" "netPaid" "[I", Cond.fieldLink RX4 107 "Queuefloat$Limits" "boundOf" "[I", Cond.methodLink RX4 98 yX4_pairOf, Cond.static yX4_pairOf, Cond.code yX4_pairOf cX4_pairOf 2 (some .int), Cond.methodLink RX4 236 yX4_firstSmallFree, Cond.instanceMethod yX4_firstSmallFree, Cond.selects RX4 yX4_firstSmallFree yX4_firstSmallFree, Cond.code yX4_firstSmallFree cX4_firstSmallFree 4 (some .int), Cond.fieldLink RX4 113 "Queuefloat$Payments" "made" "I", Cond.fieldLink RX4 239 "Queuefloat$Payments" "byPriority" "[I", Cond.fieldLink RX4 51 "Queuefloat" "small" "I", Cond.methodLink RX4 242 yX2_waitsAt]
def wsX4_nextToGo : List Cond := .code yX4_nextToGo cX4_nextToGo 3 (some .int) :: ((wsX4_nextToGo_r1 ++ wsX4_nextToGo_r2) ++ wsX40 ++ wsX20 ++ wsX30 ++ wsX00)
def wsX4_send_r1 : List Cond := [Cond.fieldLink RX4 29 "Queuefloat" "payments" "LQueuefloat$Payments;", Cond.fieldLink RX4 10 "Queuefloat" "sums" "LQueuefloat$Sums;", Cond.fieldLink RX4 125 "Queuefloat$Payments" "waits" "[Z", Cond.methodLink RX4 226 yX2_apply, Cond.instanceMethod yX2_apply, Cond.selects RX2 yX2_apply yX2_apply, Cond.initialized RX2, Cond.code yX2_apply cX2_apply 3 none, Cond.fieldLink RX2 9 "Queuefloat$Payments" "from" "[I", Cond.fieldLink RX2 15 "Queuefloat$Payments" "to" "[I", Cond.fieldLink RX2 18 "Queuefloat$Payments" "amount" "[I", Cond.methodLink RX2 35 yX3_move, Cond.instanceMethod yX3_move, Cond.selects RX3 yX3_move yX3_move, Cond.initialized RX3, Cond.code yX3_move cX3_move 4 none, Cond.fieldLink RX3 9 "Queuefloat$Sums" "accountOf" "[I", Cond.methodLink RX2 41 yX3_notePaid, Cond.instanceMethod yX3_notePaid, Cond.selects RX3 yX3_notePaid yX3_notePaid, Cond.code yX3_notePaid cX3_notePaid 4 none, Cond.fieldLink RX3 15 "Queuefloat$Sums" "netPaid" "[I", Cond.static yX4_pairOf, Cond.initialized RX4]
def wsX4_send_r2 : List Cond := [Cond.code yX4_pairOf cX4_pairOf 2 (some .int)]
def wsX4_send : List Cond := .code yX4_send cX4_send 2 none :: ((wsX4_send_r1 ++ wsX4_send_r2) ++ wsX40 ++ wsX20 ++ wsX30)
def wsX4_goThroughBanks_r1 : List Cond := [Cond.methodLink RX4 230 yX4_nextToGo, Cond.instanceMethod yX4_nextToGo, Cond.selects RX4 yX4_nextToGo yX4_nextToGo, Cond.initialized RX4, Cond.code yX4_nextToGo cX4_nextToGo 3 (some .int), Cond.fieldLink RX4 29 "Queuefloat" "payments" "LQueuefloat$Payments;", Cond.methodLink RX4 145 yX2_inQueue, Cond.instanceMethod yX2_inQueue, Cond.selects RX2 yX2_inQueue yX2_inQueue, Cond.initialized RX2, Cond.code yX2_inQueue cX2_inQueue 5 (some .int), Cond.fieldLink RX2 31 "Queuefloat$Payments" "made" "I", Cond.fieldLink RX2 28 "Queuefloat$Payments" "byPriority" "[I", Cond.methodLink RX2 44 yX2_waitsAt, Cond.instanceMethod yX2_waitsAt, Cond.selects RX2 yX2_waitsAt yX2_waitsAt, Cond.code yX2_waitsAt cX2_waitsAt 3 (some .boolean), Cond.fieldLink RX2 24 "Queuefloat$Payments" "waits" "[Z", Cond.fieldLink RX2 9 "Queuefloat$Payments" "from" "[I", Cond.methodLink RX4 148 yX4_obstacle, Cond.instanceMethod yX4_obstacle, Cond.selects RX4 yX4_obstacle yX4_obstacle, Cond.code yX4_obstacle cX4_obstacle 5 (some .int), Cond.fieldLink RX4 125 "Queuefloat$Payments" "waits" "[Z"]
def wsX4_goThroughBanks_r2 : List Cond := [Cond.fieldLink RX4 217 "Queuefloat$Payments" "from" "[I", Cond.fieldLink RX4 220 "Queuefloat$Payments" "amount" "[I", Cond.fieldLink RX4 10 "Queuefloat" "sums" "LQueuefloat$Sums;", Cond.fieldLink RX4 73 "Queuefloat$Sums" "accountOf" "[I", Cond.fieldLink RX4 22 "Queuefloat" "limits" "LQueuefloat$Limits;", Cond.fieldLink RX4 91 "Queuefloat$Limits" "floorOf" "[I", Cond.fieldLink RX4 223 "Queuefloat$Payments" "to" "[I", Cond.fieldLink RX4 101 "Queuefloat$Sums" "netPaid" "[I", Cond.fieldLink RX4 107 "Queuefloat$Limits" "boundOf" "[I", Cond.methodLink RX4 98 yX4_pairOf, Cond.static yX4_pairOf, Cond.code yX4_pairOf cX4_pairOf 2 (some .int), Cond.methodLink RX4 236 yX4_firstSmallFree, Cond.instanceMethod yX4_firstSmallFree, Cond.selects RX4 yX4_firstSmallFree yX4_firstSmallFree, Cond.code yX4_firstSmallFree cX4_firstSmallFree 4 (some .int), Cond.fieldLink RX4 113 "Queuefloat$Payments" "made" "I", Cond.fieldLink RX4 239 "Queuefloat$Payments" "byPriority" "[I", Cond.fieldLink RX4 51 "Queuefloat" "small" "I", Cond.methodLink RX4 242 yX2_waitsAt, Cond.methodLink RX4 233 yX4_send, Cond.instanceMethod yX4_send, Cond.selects RX4 yX4_send yX4_send, Cond.code yX4_send cX4_send 2 none]
def wsX4_goThroughBanks_r3 : List Cond := [Cond.methodLink RX4 226 yX2_apply, Cond.instanceMethod yX2_apply, Cond.selects RX2 yX2_apply yX2_apply, Cond.code yX2_apply cX2_apply 3 none, Cond.fieldLink RX2 15 "Queuefloat$Payments" "to" "[I", Cond.fieldLink RX2 18 "Queuefloat$Payments" "amount" "[I", Cond.methodLink RX2 35 yX3_move, Cond.instanceMethod yX3_move, Cond.selects RX3 yX3_move yX3_move, Cond.initialized RX3, Cond.code yX3_move cX3_move 4 none, Cond.fieldLink RX3 9 "Queuefloat$Sums" "accountOf" "[I", Cond.methodLink RX2 41 yX3_notePaid, Cond.instanceMethod yX3_notePaid, Cond.selects RX3 yX3_notePaid yX3_notePaid, Cond.code yX3_notePaid cX3_notePaid 4 none, Cond.fieldLink RX3 15 "Queuefloat$Sums" "netPaid" "[I"]
def wsX4_goThroughBanks : List Cond := .code yX4_goThroughBanks cX4_goThroughBanks 4 (some .int) :: ((wsX4_goThroughBanks_r1 ++ (wsX4_goThroughBanks_r2 ++ wsX4_goThroughBanks_r3)) ++ wsX40 ++ wsX20 ++ wsX30 ++ wsX00)
def wsJ6_bitCount_0f7a4 : List Cond := .code yJ6_bitCount_0f7a4 cJ6_bitCount_0f7a4 1 (some .int) :: ([.constant RJ6 265 (1431655765), .constant RJ6 266 (858993459), .constant RJ6 267 (252645135)])
def wsX4_isIn : List Cond := .code yX4_isIn cX4_isIn 2 (some .boolean) :: ([])
def wsX4_canGoTogether_r1 : List Cond := [Cond.fieldLink RX4 16 "Queuefloat" "trial" "LQueuefloat$Sums;", Cond.fieldLink RX4 10 "Queuefloat" "sums" "LQueuefloat$Sums;", Cond.fieldLink RX4 48 "Queuefloat" "candidates" "[I", Cond.fieldLink RX4 29 "Queuefloat" "payments" "LQueuefloat$Payments;", Cond.fieldLink RX4 22 "Queuefloat" "limits" "LQueuefloat$Limits;", Cond.methodLink RX4 253 yX3_copy, Cond.instanceMethod yX3_copy, Cond.selects RX3 yX3_copy yX3_copy, Cond.initialized RX3, Cond.code yX3_copy cX3_copy 2 none, Cond.fieldLink RX3 9 "Queuefloat$Sums" "accountOf" "[I", Cond.methodLink RX3 22 arraycopyName, Cond.native arraycopyName, Cond.static arraycopyName, Cond.initialized "java/lang/System", Cond.fieldLink RX3 15 "Queuefloat$Sums" "netPaid" "[I", Cond.methodLink RX4 250 yX4_isIn, Cond.static yX4_isIn, Cond.initialized RX4, Cond.code yX4_isIn cX4_isIn 2 (some .boolean), Cond.methodLink RX4 226 yX2_apply, Cond.instanceMethod yX2_apply, Cond.selects RX2 yX2_apply yX2_apply, Cond.initialized RX2]
def wsX4_canGoTogether_r2 : List Cond := [Cond.code yX2_apply cX2_apply 3 none, Cond.fieldLink RX2 9 "Queuefloat$Payments" "from" "[I", Cond.fieldLink RX2 15 "Queuefloat$Payments" "to" "[I", Cond.fieldLink RX2 18 "Queuefloat$Payments" "amount" "[I", Cond.methodLink RX2 35 yX3_move, Cond.instanceMethod yX3_move, Cond.selects RX3 yX3_move yX3_move, Cond.code yX3_move cX3_move 4 none, Cond.methodLink RX2 41 yX3_notePaid, Cond.instanceMethod yX3_notePaid, Cond.selects RX3 yX3_notePaid yX3_notePaid, Cond.code yX3_notePaid cX3_notePaid 4 none, Cond.static yX4_pairOf, Cond.code yX4_pairOf cX4_pairOf 2 (some .int), Cond.methodLink RX4 257 yX0_allow, Cond.instanceMethod yX0_allow, Cond.selects RX0 yX0_allow yX0_allow, Cond.initialized RX0, Cond.code yX0_allow cX0_allow 3 (some .boolean), Cond.fieldLink RX0 19 "Queuefloat$Sums" "accountOf" "[I", Cond.fieldLink RX0 9 "Queuefloat$Limits" "floorOf" "[I", Cond.fieldLink RX0 24 "Queuefloat$Sums" "netPaid" "[I", Cond.fieldLink RX0 15 "Queuefloat$Limits" "boundOf" "[I"]
def wsX4_canGoTogether : List Cond := .code yX4_canGoTogether cX4_canGoTogether 4 (some .boolean) :: ((wsX4_canGoTogether_r1 ++ wsX4_canGoTogether_r2) ++ wsX40 ++ wsX30 ++ wsX20 ++ wsX00)
def wsX4_sendLargestSet_r1 : List Cond := [Cond.fieldLink RX4 48 "Queuefloat" "candidates" "[I", Cond.fieldLink RX4 29 "Queuefloat" "payments" "LQueuefloat$Payments;", Cond.methodLink RX4 145 yX2_inQueue, Cond.instanceMethod yX2_inQueue, Cond.selects RX2 yX2_inQueue yX2_inQueue, Cond.initialized RX2, Cond.code yX2_inQueue cX2_inQueue 5 (some .int), Cond.fieldLink RX2 31 "Queuefloat$Payments" "made" "I", Cond.fieldLink RX2 28 "Queuefloat$Payments" "byPriority" "[I", Cond.methodLink RX2 44 yX2_waitsAt, Cond.instanceMethod yX2_waitsAt, Cond.selects RX2 yX2_waitsAt yX2_waitsAt, Cond.code yX2_waitsAt cX2_waitsAt 3 (some .boolean), Cond.fieldLink RX2 24 "Queuefloat$Payments" "waits" "[Z", Cond.fieldLink RX2 9 "Queuefloat$Payments" "from" "[I", Cond.methodLink RX4 245 yJ6_bitCount_0f7a4, Cond.static yJ6_bitCount_0f7a4, Cond.initialized RJ6, Cond.code yJ6_bitCount_0f7a4 cJ6_bitCount_0f7a4 1 (some .int), Cond.constant RJ6 265 (1431655765), Cond.constant RJ6 266 (858993459), Cond.constant RJ6 267 (252645135), Cond.methodLink RX4 157 yX4_canGoTogether, Cond.instanceMethod yX4_canGoTogether]
def wsX4_sendLargestSet_r2 : List Cond := [Cond.selects RX4 yX4_canGoTogether yX4_canGoTogether, Cond.initialized RX4, Cond.code yX4_canGoTogether cX4_canGoTogether 4 (some .boolean), Cond.fieldLink RX4 16 "Queuefloat" "trial" "LQueuefloat$Sums;", Cond.fieldLink RX4 10 "Queuefloat" "sums" "LQueuefloat$Sums;", Cond.fieldLink RX4 22 "Queuefloat" "limits" "LQueuefloat$Limits;", Cond.methodLink RX4 253 yX3_copy, Cond.instanceMethod yX3_copy, Cond.selects RX3 yX3_copy yX3_copy, Cond.initialized RX3, Cond.code yX3_copy cX3_copy 2 none, Cond.fieldLink RX3 9 "Queuefloat$Sums" "accountOf" "[I", Cond.methodLink RX3 22 arraycopyName, Cond.native arraycopyName, Cond.static arraycopyName, Cond.initialized "java/lang/System", Cond.fieldLink RX3 15 "Queuefloat$Sums" "netPaid" "[I", Cond.methodLink RX4 250 yX4_isIn, Cond.static yX4_isIn, Cond.code yX4_isIn cX4_isIn 2 (some .boolean), Cond.methodLink RX4 226 yX2_apply, Cond.instanceMethod yX2_apply, Cond.selects RX2 yX2_apply yX2_apply, Cond.code yX2_apply cX2_apply 3 none]
def wsX4_sendLargestSet_r3 : List Cond := [Cond.fieldLink RX2 15 "Queuefloat$Payments" "to" "[I", Cond.fieldLink RX2 18 "Queuefloat$Payments" "amount" "[I", Cond.methodLink RX2 35 yX3_move, Cond.instanceMethod yX3_move, Cond.selects RX3 yX3_move yX3_move, Cond.code yX3_move cX3_move 4 none, Cond.methodLink RX2 41 yX3_notePaid, Cond.instanceMethod yX3_notePaid, Cond.selects RX3 yX3_notePaid yX3_notePaid, Cond.code yX3_notePaid cX3_notePaid 4 none, Cond.static yX4_pairOf, Cond.code yX4_pairOf cX4_pairOf 2 (some .int), Cond.methodLink RX4 257 yX0_allow, Cond.instanceMethod yX0_allow, Cond.selects RX0 yX0_allow yX0_allow, Cond.initialized RX0, Cond.code yX0_allow cX0_allow 3 (some .boolean), Cond.fieldLink RX0 19 "Queuefloat$Sums" "accountOf" "[I", Cond.fieldLink RX0 9 "Queuefloat$Limits" "floorOf" "[I", Cond.fieldLink RX0 24 "Queuefloat$Sums" "netPaid" "[I", Cond.fieldLink RX0 15 "Queuefloat$Limits" "boundOf" "[I", Cond.methodLink RX4 233 yX4_send, Cond.instanceMethod yX4_send, Cond.selects RX4 yX4_send yX4_send]
def wsX4_sendLargestSet_r4 : List Cond := [Cond.code yX4_send cX4_send 2 none, Cond.fieldLink RX4 125 "Queuefloat$Payments" "waits" "[Z"]
def wsX4_sendLargestSet : List Cond := .code yX4_sendLargestSet cX4_sendLargestSet 3 (some .int) :: ((wsX4_sendLargestSet_r1 ++ (wsX4_sendLargestSet_r2 ++ (wsX4_sendLargestSet_r3 ++ wsX4_sendLargestSet_r4))) ++ wsX40 ++ wsX20 ++ wsX30 ++ wsX00)
def wsX4_run_r1 : List Cond := [Cond.methodLink RX4 134 yX4_goThroughBanks, Cond.instanceMethod yX4_goThroughBanks, Cond.selects RX4 yX4_goThroughBanks yX4_goThroughBanks, Cond.initialized RX4, Cond.code yX4_goThroughBanks cX4_goThroughBanks 4 (some .int), Cond.methodLink RX4 230 yX4_nextToGo, Cond.instanceMethod yX4_nextToGo, Cond.selects RX4 yX4_nextToGo yX4_nextToGo, Cond.code yX4_nextToGo cX4_nextToGo 3 (some .int), Cond.fieldLink RX4 29 "Queuefloat" "payments" "LQueuefloat$Payments;", Cond.methodLink RX4 145 yX2_inQueue, Cond.instanceMethod yX2_inQueue, Cond.selects RX2 yX2_inQueue yX2_inQueue, Cond.initialized RX2, Cond.code yX2_inQueue cX2_inQueue 5 (some .int), Cond.fieldLink RX2 31 "Queuefloat$Payments" "made" "I", Cond.fieldLink RX2 28 "Queuefloat$Payments" "byPriority" "[I", Cond.methodLink RX2 44 yX2_waitsAt, Cond.instanceMethod yX2_waitsAt, Cond.selects RX2 yX2_waitsAt yX2_waitsAt, Cond.code yX2_waitsAt cX2_waitsAt 3 (some .boolean), Cond.fieldLink RX2 24 "Queuefloat$Payments" "waits" "[Z", Cond.fieldLink RX2 9 "Queuefloat$Payments" "from" "[I", Cond.methodLink RX4 148 yX4_obstacle]
def wsX4_run_r2 : List Cond := [Cond.instanceMethod yX4_obstacle, Cond.selects RX4 yX4_obstacle yX4_obstacle, Cond.code yX4_obstacle cX4_obstacle 5 (some .int), Cond.fieldLink RX4 125 "Queuefloat$Payments" "waits" "[Z", Cond.fieldLink RX4 217 "Queuefloat$Payments" "from" "[I", Cond.fieldLink RX4 220 "Queuefloat$Payments" "amount" "[I", Cond.fieldLink RX4 10 "Queuefloat" "sums" "LQueuefloat$Sums;", Cond.fieldLink RX4 73 "Queuefloat$Sums" "accountOf" "[I", Cond.fieldLink RX4 22 "Queuefloat" "limits" "LQueuefloat$Limits;", Cond.fieldLink RX4 91 "Queuefloat$Limits" "floorOf" "[I", Cond.fieldLink RX4 223 "Queuefloat$Payments" "to" "[I", Cond.fieldLink RX4 101 "Queuefloat$Sums" "netPaid" "[I", Cond.fieldLink RX4 107 "Queuefloat$Limits" "boundOf" "[I", Cond.methodLink RX4 98 yX4_pairOf, Cond.static yX4_pairOf, Cond.code yX4_pairOf cX4_pairOf 2 (some .int), Cond.methodLink RX4 236 yX4_firstSmallFree, Cond.instanceMethod yX4_firstSmallFree, Cond.selects RX4 yX4_firstSmallFree yX4_firstSmallFree, Cond.code yX4_firstSmallFree cX4_firstSmallFree 4 (some .int), Cond.fieldLink RX4 113 "Queuefloat$Payments" "made" "I", Cond.fieldLink RX4 239 "Queuefloat$Payments" "byPriority" "[I", Cond.fieldLink RX4 51 "Queuefloat" "small" "I", Cond.methodLink RX4 242 yX2_waitsAt]
def wsX4_run_r3 : List Cond := [Cond.methodLink RX4 233 yX4_send, Cond.instanceMethod yX4_send, Cond.selects RX4 yX4_send yX4_send, Cond.code yX4_send cX4_send 2 none, Cond.methodLink RX4 226 yX2_apply, Cond.instanceMethod yX2_apply, Cond.selects RX2 yX2_apply yX2_apply, Cond.code yX2_apply cX2_apply 3 none, Cond.fieldLink RX2 15 "Queuefloat$Payments" "to" "[I", Cond.fieldLink RX2 18 "Queuefloat$Payments" "amount" "[I", Cond.methodLink RX2 35 yX3_move, Cond.instanceMethod yX3_move, Cond.selects RX3 yX3_move yX3_move, Cond.initialized RX3, Cond.code yX3_move cX3_move 4 none, Cond.fieldLink RX3 9 "Queuefloat$Sums" "accountOf" "[I", Cond.methodLink RX2 41 yX3_notePaid, Cond.instanceMethod yX3_notePaid, Cond.selects RX3 yX3_notePaid yX3_notePaid, Cond.code yX3_notePaid cX3_notePaid 4 none, Cond.fieldLink RX3 15 "Queuefloat$Sums" "netPaid" "[I", Cond.methodLink RX4 137 yX4_sendLargestSet, Cond.instanceMethod yX4_sendLargestSet, Cond.selects RX4 yX4_sendLargestSet yX4_sendLargestSet]
def wsX4_run_r4 : List Cond := [Cond.code yX4_sendLargestSet cX4_sendLargestSet 3 (some .int), Cond.fieldLink RX4 48 "Queuefloat" "candidates" "[I", Cond.methodLink RX4 245 yJ6_bitCount_0f7a4, Cond.static yJ6_bitCount_0f7a4, Cond.initialized RJ6, Cond.code yJ6_bitCount_0f7a4 cJ6_bitCount_0f7a4 1 (some .int), Cond.constant RJ6 265 (1431655765), Cond.constant RJ6 266 (858993459), Cond.constant RJ6 267 (252645135), Cond.methodLink RX4 157 yX4_canGoTogether, Cond.instanceMethod yX4_canGoTogether, Cond.selects RX4 yX4_canGoTogether yX4_canGoTogether, Cond.code yX4_canGoTogether cX4_canGoTogether 4 (some .boolean), Cond.fieldLink RX4 16 "Queuefloat" "trial" "LQueuefloat$Sums;", Cond.methodLink RX4 253 yX3_copy, Cond.instanceMethod yX3_copy, Cond.selects RX3 yX3_copy yX3_copy, Cond.code yX3_copy cX3_copy 2 none, Cond.methodLink RX3 22 arraycopyName, Cond.native arraycopyName, Cond.static arraycopyName, Cond.initialized "java/lang/System", Cond.methodLink RX4 250 yX4_isIn, Cond.static yX4_isIn]
def wsX4_run_r5 : List Cond := [Cond.code yX4_isIn cX4_isIn 2 (some .boolean), Cond.methodLink RX4 257 yX0_allow, Cond.instanceMethod yX0_allow, Cond.selects RX0 yX0_allow yX0_allow, Cond.initialized RX0, Cond.code yX0_allow cX0_allow 3 (some .boolean), Cond.fieldLink RX0 19 "Queuefloat$Sums" "accountOf" "[I", Cond.fieldLink RX0 9 "Queuefloat$Limits" "floorOf" "[I", Cond.fieldLink RX0 24 "Queuefloat$Sums" "netPaid" "[I", Cond.fieldLink RX0 15 "Queuefloat$Limits" "boundOf" "[I"]
def wsX4_run : List Cond := .code yX4_run cX4_run 4 (some .int) :: ((wsX4_run_r1 ++ (wsX4_run_r2 ++ (wsX4_run_r3 ++ (wsX4_run_r4 ++ wsX4_run_r5)))) ++ wsX40 ++ wsX20 ++ wsX30 ++ wsX00)
def wsX4_queued : List Cond := .code yX4_queued cX4_queued 3 (some .int) :: ([.classLink RX4 140 "java/lang/IndexOutOfBoundsException", .initialized "java/lang/IndexOutOfBoundsException", .fieldLink RX4 29 "Queuefloat" "payments" "LQueuefloat$Payments;", .methodLink RX4 61 yX4_requireBank, .static yX4_requireBank, .initialized RX4, .code yX4_requireBank cX4_requireBank 1 none, .methodLink RX4 145 yX2_inQueue, .instanceMethod yX2_inQueue, .selects RX2 yX2_inQueue yX2_inQueue, .initialized RX2, .code yX2_inQueue cX2_inQueue 5 (some .int), .fieldLink RX2 31 "Queuefloat$Payments" "made" "I", .fieldLink RX2 28 "Queuefloat$Payments" "byPriority" "[I", .methodLink RX2 44 yX2_waitsAt, .instanceMethod yX2_waitsAt, .selects RX2 yX2_waitsAt yX2_waitsAt, .code yX2_waitsAt cX2_waitsAt 3 (some .boolean), .fieldLink RX2 24 "Queuefloat$Payments" "waits" "[Z", .fieldLink RX2 9 "Queuefloat$Payments" "from" "[I"] ++ wsX40 ++ wsX20 ++ (vx_atS RX4 144 "java/lang/IndexOutOfBoundsException" ["java/lang/RuntimeException", "java/lang/Exception"]).filter goodWord)
def wsX4_why_r1 : List Cond := [Cond.methodLink RX4 122 yX4_requirePayment, Cond.instanceMethod yX4_requirePayment, Cond.selects RX4 yX4_requirePayment yX4_requirePayment, Cond.initialized RX4, Cond.code yX4_requirePayment cX4_requirePayment 2 none, Cond.classLink RX4 140 "java/lang/IndexOutOfBoundsException", Cond.initialized "java/lang/IndexOutOfBoundsException", Cond.fieldLink RX4 29 "Queuefloat" "payments" "LQueuefloat$Payments;", Cond.fieldLink RX4 113 "Queuefloat$Payments" "made" "I", Cond.methodLink RX4 148 yX4_obstacle, Cond.instanceMethod yX4_obstacle, Cond.selects RX4 yX4_obstacle yX4_obstacle, Cond.code yX4_obstacle cX4_obstacle 5 (some .int), Cond.fieldLink RX4 125 "Queuefloat$Payments" "waits" "[Z", Cond.fieldLink RX4 217 "Queuefloat$Payments" "from" "[I", Cond.fieldLink RX4 220 "Queuefloat$Payments" "amount" "[I", Cond.fieldLink RX4 10 "Queuefloat" "sums" "LQueuefloat$Sums;", Cond.fieldLink RX4 73 "Queuefloat$Sums" "accountOf" "[I", Cond.fieldLink RX4 22 "Queuefloat" "limits" "LQueuefloat$Limits;", Cond.fieldLink RX4 91 "Queuefloat$Limits" "floorOf" "[I", Cond.fieldLink RX4 223 "Queuefloat$Payments" "to" "[I", Cond.fieldLink RX4 101 "Queuefloat$Sums" "netPaid" "[I", Cond.fieldLink RX4 107 "Queuefloat$Limits" "boundOf" "[I", Cond.methodLink RX4 98 yX4_pairOf]
def wsX4_why_r2 : List Cond := [Cond.static yX4_pairOf, Cond.code yX4_pairOf cX4_pairOf 2 (some .int)]
def wsX4_why : List Cond := .code yX4_why cX4_why 2 (some .int) :: ((wsX4_why_r1 ++ wsX4_why_r2) ++ wsX40 ++ wsX20 ++ wsX30 ++ wsX00 ++ (vx_atS RX4 144 "java/lang/IndexOutOfBoundsException" ["java/lang/RuntimeException", "java/lang/Exception"]).filter goodWord)
def wsX4_listWaiting : List Cond := .code yX4_listWaiting cX4_listWaiting 3 (some .int) :: ([.fieldLink RX4 29 "Queuefloat" "payments" "LQueuefloat$Payments;", .fieldLink RX4 113 "Queuefloat$Payments" "made" "I", .fieldLink RX4 125 "Queuefloat$Payments" "waits" "[Z", .fieldLink RX4 48 "Queuefloat" "candidates" "[I"] ++ wsX40 ++ wsX20)
def wsX4_canAny_r1 : List Cond := [Cond.classLink RX4 77 "java/lang/IllegalStateException", Cond.initialized "java/lang/IllegalStateException", Cond.fieldLink RX4 29 "Queuefloat" "payments" "LQueuefloat$Payments;", Cond.methodLink RX4 130 yX2_countWaiting, Cond.instanceMethod yX2_countWaiting, Cond.selects RX2 yX2_countWaiting yX2_countWaiting, Cond.initialized RX2, Cond.code yX2_countWaiting cX2_countWaiting 3 (some .int), Cond.fieldLink RX2 31 "Queuefloat$Payments" "made" "I", Cond.fieldLink RX2 24 "Queuefloat$Payments" "waits" "[Z", Cond.methodLink RX4 154 yX4_listWaiting, Cond.instanceMethod yX4_listWaiting, Cond.selects RX4 yX4_listWaiting yX4_listWaiting, Cond.initialized RX4, Cond.code yX4_listWaiting cX4_listWaiting 3 (some .int), Cond.fieldLink RX4 113 "Queuefloat$Payments" "made" "I", Cond.fieldLink RX4 125 "Queuefloat$Payments" "waits" "[Z", Cond.fieldLink RX4 48 "Queuefloat" "candidates" "[I", Cond.methodLink RX4 157 yX4_canGoTogether, Cond.instanceMethod yX4_canGoTogether, Cond.selects RX4 yX4_canGoTogether yX4_canGoTogether, Cond.code yX4_canGoTogether cX4_canGoTogether 4 (some .boolean), Cond.fieldLink RX4 16 "Queuefloat" "trial" "LQueuefloat$Sums;", Cond.fieldLink RX4 10 "Queuefloat" "sums" "LQueuefloat$Sums;"]
def wsX4_canAny_r2 : List Cond := [Cond.fieldLink RX4 22 "Queuefloat" "limits" "LQueuefloat$Limits;", Cond.methodLink RX4 253 yX3_copy, Cond.instanceMethod yX3_copy, Cond.selects RX3 yX3_copy yX3_copy, Cond.initialized RX3, Cond.code yX3_copy cX3_copy 2 none, Cond.fieldLink RX3 9 "Queuefloat$Sums" "accountOf" "[I", Cond.methodLink RX3 22 arraycopyName, Cond.native arraycopyName, Cond.static arraycopyName, Cond.initialized "java/lang/System", Cond.fieldLink RX3 15 "Queuefloat$Sums" "netPaid" "[I", Cond.methodLink RX4 250 yX4_isIn, Cond.static yX4_isIn, Cond.code yX4_isIn cX4_isIn 2 (some .boolean), Cond.methodLink RX4 226 yX2_apply, Cond.instanceMethod yX2_apply, Cond.selects RX2 yX2_apply yX2_apply, Cond.code yX2_apply cX2_apply 3 none, Cond.fieldLink RX2 9 "Queuefloat$Payments" "from" "[I", Cond.fieldLink RX2 15 "Queuefloat$Payments" "to" "[I", Cond.fieldLink RX2 18 "Queuefloat$Payments" "amount" "[I", Cond.methodLink RX2 35 yX3_move, Cond.instanceMethod yX3_move]
def wsX4_canAny_r3 : List Cond := [Cond.selects RX3 yX3_move yX3_move, Cond.code yX3_move cX3_move 4 none, Cond.methodLink RX2 41 yX3_notePaid, Cond.instanceMethod yX3_notePaid, Cond.selects RX3 yX3_notePaid yX3_notePaid, Cond.code yX3_notePaid cX3_notePaid 4 none, Cond.static yX4_pairOf, Cond.code yX4_pairOf cX4_pairOf 2 (some .int), Cond.methodLink RX4 257 yX0_allow, Cond.instanceMethod yX0_allow, Cond.selects RX0 yX0_allow yX0_allow, Cond.initialized RX0, Cond.code yX0_allow cX0_allow 3 (some .boolean), Cond.fieldLink RX0 19 "Queuefloat$Sums" "accountOf" "[I", Cond.fieldLink RX0 9 "Queuefloat$Limits" "floorOf" "[I", Cond.fieldLink RX0 24 "Queuefloat$Sums" "netPaid" "[I", Cond.fieldLink RX0 15 "Queuefloat$Limits" "boundOf" "[I"]
def wsX4_canAny : List Cond := .code yX4_canAny cX4_canAny 3 (some .boolean) :: ((wsX4_canAny_r1 ++ (wsX4_canAny_r2 ++ wsX4_canAny_r3)) ++ wsX40 ++ wsX20 ++ wsX30 ++ wsX00 ++ (vx_atS RX4 81 "java/lang/IllegalStateException" ["java/lang/RuntimeException", "java/lang/Exception"]).filter goodWord)
def wsX4_setPrice : List Cond := .code yX4_setPrice cX4_setPrice 3 none :: ([.fieldLink RX4 55 "Queuefloat" "paperPrice" "I", .fieldLink RX4 58 "Queuefloat" "paperCut" "I", .methodLink RX4 66 yX4_requireRange, .static yX4_requireRange, .initialized RX4, .code yX4_requireRange cX4_requireRange 3 none, .classLink RX4 197 "java/lang/IllegalArgumentException", .initialized "java/lang/IllegalArgumentException"] ++ wsX40 ++ (vx_atS RX4 201 "java/lang/IllegalArgumentException" ["java/lang/RuntimeException", "java/lang/Exception"]).filter goodWord)
def wsX4_pledgeWorth : List Cond := .code yX4_pledgeWorth cX4_pledgeWorth 2 (some .int) :: ([.fieldLink RX4 55 "Queuefloat" "paperPrice" "I", .fieldLink RX4 58 "Queuefloat" "paperCut" "I"] ++ wsX40)
def wsX4_requireLoanable : List Cond := .code yX4_requireLoanable cX4_requireLoanable 5 none :: ([.classLink RX4 77 "java/lang/IllegalStateException", .initialized "java/lang/IllegalStateException", .fieldLink RX4 36 "Queuefloat" "market" "LQueuefloat$Loans;", .fieldLink RX4 169 "Queuefloat$Loans" "made" "I", .fieldLink RX4 44 "Queuefloat" "papersOf" "[I", .fieldLink RX4 10 "Queuefloat" "sums" "LQueuefloat$Sums;", .fieldLink RX4 73 "Queuefloat$Sums" "accountOf" "[I", .fieldLink RX4 22 "Queuefloat" "limits" "LQueuefloat$Limits;", .fieldLink RX4 91 "Queuefloat$Limits" "floorOf" "[I", .methodLink RX4 210 yX4_pledgeWorth, .instanceMethod yX4_pledgeWorth, .selects RX4 yX4_pledgeWorth yX4_pledgeWorth, .initialized RX4, .code yX4_pledgeWorth cX4_pledgeWorth 2 (some .int), .fieldLink RX4 55 "Queuefloat" "paperPrice" "I", .fieldLink RX4 58 "Queuefloat" "paperCut" "I"] ++ wsX40 ++ wsX10 ++ wsX30 ++ wsX00 ++ (vx_atS RX4 81 "java/lang/IllegalStateException" ["java/lang/RuntimeException", "java/lang/Exception"]).filter goodWord)
def wsX4_lend_r1 : List Cond := [Cond.constant RX4 110 (100000), Cond.fieldLink RX4 10 "Queuefloat" "sums" "LQueuefloat$Sums;", Cond.fieldLink RX4 44 "Queuefloat" "papersOf" "[I", Cond.fieldLink RX4 36 "Queuefloat" "market" "LQueuefloat$Loans;", Cond.methodLink RX4 61 yX4_requireBank, Cond.static yX4_requireBank, Cond.initialized RX4, Cond.code yX4_requireBank cX4_requireBank 1 none, Cond.classLink RX4 140 "java/lang/IndexOutOfBoundsException", Cond.initialized "java/lang/IndexOutOfBoundsException", Cond.methodLink RX4 94 yX4_requireTwo, Cond.static yX4_requireTwo, Cond.code yX4_requireTwo cX4_requireTwo 2 none, Cond.classLink RX4 197 "java/lang/IllegalArgumentException", Cond.initialized "java/lang/IllegalArgumentException", Cond.methodLink RX4 66 yX4_requireRange, Cond.static yX4_requireRange, Cond.code yX4_requireRange cX4_requireRange 3 none, Cond.methodLink RX4 70 yX4_requireOpen, Cond.instanceMethod yX4_requireOpen, Cond.selects RX4 yX4_requireOpen yX4_requireOpen, Cond.code yX4_requireOpen cX4_requireOpen 2 none, Cond.classLink RX4 77 "java/lang/IllegalStateException", Cond.initialized "java/lang/IllegalStateException"]
def wsX4_lend_r2 : List Cond := [Cond.fieldLink RX4 40 "Queuefloat" "closed" "[Z", Cond.methodLink RX4 161 yX4_requireLoanable, Cond.instanceMethod yX4_requireLoanable, Cond.selects RX4 yX4_requireLoanable yX4_requireLoanable, Cond.code yX4_requireLoanable cX4_requireLoanable 5 none, Cond.fieldLink RX4 169 "Queuefloat$Loans" "made" "I", Cond.fieldLink RX4 73 "Queuefloat$Sums" "accountOf" "[I", Cond.fieldLink RX4 22 "Queuefloat" "limits" "LQueuefloat$Limits;", Cond.fieldLink RX4 91 "Queuefloat$Limits" "floorOf" "[I", Cond.methodLink RX4 210 yX4_pledgeWorth, Cond.instanceMethod yX4_pledgeWorth, Cond.selects RX4 yX4_pledgeWorth yX4_pledgeWorth, Cond.code yX4_pledgeWorth cX4_pledgeWorth 2 (some .int), Cond.fieldLink RX4 55 "Queuefloat" "paperPrice" "I", Cond.fieldLink RX4 58 "Queuefloat" "paperCut" "I", Cond.methodLink RX4 165 yX3_move, Cond.instanceMethod yX3_move, Cond.selects RX3 yX3_move yX3_move, Cond.initialized RX3, Cond.code yX3_move cX3_move 4 none, Cond.fieldLink RX3 9 "Queuefloat$Sums" "accountOf" "[I", Cond.methodLink RX4 168 yX1_enter, Cond.instanceMethod yX1_enter, Cond.selects RX1 yX1_enter yX1_enter]
def wsX4_lend_r3 : List Cond := [Cond.initialized RX1, Cond.code yX1_enter cX1_enter 6 (some .int), Cond.fieldLink RX1 24 "Queuefloat$Loans" "made" "I", Cond.fieldLink RX1 9 "Queuefloat$Loans" "lender" "[I", Cond.fieldLink RX1 15 "Queuefloat$Loans" "borrower" "[I", Cond.fieldLink RX1 18 "Queuefloat$Loans" "due" "[I", Cond.fieldLink RX1 21 "Queuefloat$Loans" "pledge" "[I"]
def wsX4_lend : List Cond := .code yX4_lend cX4_lend 6 (some .int) :: ((wsX4_lend_r1 ++ (wsX4_lend_r2 ++ wsX4_lend_r3)) ++ wsX40 ++ wsX10 ++ wsX30 ++ wsX00 ++ (vx_atS RX4 144 "java/lang/IndexOutOfBoundsException" ["java/lang/RuntimeException", "java/lang/Exception"]).filter goodWord ++ (vx_atS RX4 201 "java/lang/IllegalArgumentException" ["java/lang/RuntimeException", "java/lang/Exception"]).filter goodWord ++ (vx_atS RX4 81 "java/lang/IllegalStateException" ["java/lang/RuntimeException", "java/lang/Exception"]).filter goodWord)
def wsX4_loans : List Cond := .code yX4_loans cX4_loans 1 (some .int) :: ([.fieldLink RX4 36 "Queuefloat" "market" "LQueuefloat$Loans;", .fieldLink RX4 169 "Queuefloat$Loans" "made" "I", .fieldLink RX4 170 "Queuefloat$Loans" "ended" "I"] ++ wsX40 ++ wsX10)
def wsX4_canRepay : List Cond := .code yX4_canRepay cX4_canRepay 3 (some .boolean) :: ([.fieldLink RX4 36 "Queuefloat" "market" "LQueuefloat$Loans;", .fieldLink RX4 183 "Queuefloat$Loans" "borrower" "[I", .fieldLink RX4 40 "Queuefloat" "closed" "[Z", .fieldLink RX4 10 "Queuefloat" "sums" "LQueuefloat$Sums;", .fieldLink RX4 73 "Queuefloat$Sums" "accountOf" "[I", .fieldLink RX4 261 "Queuefloat$Loans" "due" "[I", .fieldLink RX4 22 "Queuefloat" "limits" "LQueuefloat$Limits;", .fieldLink RX4 91 "Queuefloat$Limits" "floorOf" "[I"] ++ wsX40 ++ wsX10 ++ wsX30 ++ wsX00)
def wsX4_repay : List Cond := .code yX4_repay cX4_repay 3 none :: ([.fieldLink RX4 36 "Queuefloat" "market" "LQueuefloat$Loans;", .fieldLink RX4 183 "Queuefloat$Loans" "borrower" "[I", .fieldLink RX4 10 "Queuefloat" "sums" "LQueuefloat$Sums;", .fieldLink RX4 264 "Queuefloat$Loans" "lender" "[I", .fieldLink RX4 261 "Queuefloat$Loans" "due" "[I", .fieldLink RX4 44 "Queuefloat" "papersOf" "[I", .fieldLink RX4 267 "Queuefloat$Loans" "pledge" "[I", .methodLink RX4 165 yX3_move, .instanceMethod yX3_move, .selects RX3 yX3_move yX3_move, .initialized RX3, .code yX3_move cX3_move 4 none, .fieldLink RX3 9 "Queuefloat$Sums" "accountOf" "[I"] ++ wsX40 ++ wsX10 ++ wsX30)
def wsX4_close : List Cond := .code yX4_close cX4_close 2 (some .int) :: ([.fieldLink RX4 40 "Queuefloat" "closed" "[Z", .fieldLink RX4 29 "Queuefloat" "payments" "LQueuefloat$Payments;", .methodLink RX4 270 yX2_dropAllOf, .instanceMethod yX2_dropAllOf, .selects RX2 yX2_dropAllOf yX2_dropAllOf, .initialized RX2, .code yX2_dropAllOf cX2_dropAllOf 3 none, .fieldLink RX2 31 "Queuefloat$Payments" "made" "I", .fieldLink RX2 9 "Queuefloat$Payments" "from" "[I", .fieldLink RX2 15 "Queuefloat$Payments" "to" "[I", .fieldLink RX2 24 "Queuefloat$Payments" "waits" "[Z"] ++ wsX40 ++ wsX20)
def wsX4_sellPledge : List Cond := .code yX4_sellPledge cX4_sellPledge 4 none :: ([.fieldLink RX4 36 "Queuefloat" "market" "LQueuefloat$Loans;", .fieldLink RX4 267 "Queuefloat$Loans" "pledge" "[I", .fieldLink RX4 55 "Queuefloat" "paperPrice" "I", .fieldLink RX4 261 "Queuefloat$Loans" "due" "[I", .methodLink RX4 85 Lib.Math.min.name, .static Lib.Math.min.name, .initialized "java/lang/Math", .code Lib.Math.min.name Lib.Math.min.code 2 (some .int), .fieldLink RX4 10 "Queuefloat" "sums" "LQueuefloat$Sums;", .fieldLink RX4 73 "Queuefloat$Sums" "accountOf" "[I", .fieldLink RX4 264 "Queuefloat$Loans" "lender" "[I", .fieldLink RX4 183 "Queuefloat$Loans" "borrower" "[I", .fieldLink RX4 192 "Queuefloat" "proceeds" "I"] ++ wsX40 ++ wsX10 ++ wsX30)
def wsX4_morning_r1 : List Cond := [Cond.fieldLink RX4 10 "Queuefloat" "sums" "LQueuefloat$Sums;", Cond.fieldLink RX4 36 "Queuefloat" "market" "LQueuefloat$Loans;", Cond.fieldLink RX4 170 "Queuefloat$Loans" "ended" "I", Cond.fieldLink RX4 169 "Queuefloat$Loans" "made" "I", Cond.fieldLink RX4 183 "Queuefloat$Loans" "borrower" "[I", Cond.methodLink RX4 173 yX3_forgetPaid, Cond.instanceMethod yX3_forgetPaid, Cond.selects RX3 yX3_forgetPaid yX3_forgetPaid, Cond.initialized RX3, Cond.code yX3_forgetPaid cX3_forgetPaid 2 none, Cond.fieldLink RX3 15 "Queuefloat$Sums" "netPaid" "[I", Cond.methodLink RX4 176 yX4_canRepay, Cond.instanceMethod yX4_canRepay, Cond.selects RX4 yX4_canRepay yX4_canRepay, Cond.initialized RX4, Cond.code yX4_canRepay cX4_canRepay 3 (some .boolean), Cond.fieldLink RX4 40 "Queuefloat" "closed" "[Z", Cond.fieldLink RX4 73 "Queuefloat$Sums" "accountOf" "[I", Cond.fieldLink RX4 261 "Queuefloat$Loans" "due" "[I", Cond.fieldLink RX4 22 "Queuefloat" "limits" "LQueuefloat$Limits;", Cond.fieldLink RX4 91 "Queuefloat$Limits" "floorOf" "[I", Cond.methodLink RX4 180 yX4_repay, Cond.instanceMethod yX4_repay, Cond.selects RX4 yX4_repay yX4_repay]
def wsX4_morning_r2 : List Cond := [Cond.code yX4_repay cX4_repay 3 none, Cond.fieldLink RX4 264 "Queuefloat$Loans" "lender" "[I", Cond.fieldLink RX4 44 "Queuefloat" "papersOf" "[I", Cond.fieldLink RX4 267 "Queuefloat$Loans" "pledge" "[I", Cond.methodLink RX4 165 yX3_move, Cond.instanceMethod yX3_move, Cond.selects RX3 yX3_move yX3_move, Cond.code yX3_move cX3_move 4 none, Cond.fieldLink RX3 9 "Queuefloat$Sums" "accountOf" "[I", Cond.methodLink RX4 186 yX4_close, Cond.instanceMethod yX4_close, Cond.selects RX4 yX4_close yX4_close, Cond.code yX4_close cX4_close 2 (some .int), Cond.fieldLink RX4 29 "Queuefloat" "payments" "LQueuefloat$Payments;", Cond.methodLink RX4 270 yX2_dropAllOf, Cond.instanceMethod yX2_dropAllOf, Cond.selects RX2 yX2_dropAllOf yX2_dropAllOf, Cond.initialized RX2, Cond.code yX2_dropAllOf cX2_dropAllOf 3 none, Cond.fieldLink RX2 31 "Queuefloat$Payments" "made" "I", Cond.fieldLink RX2 9 "Queuefloat$Payments" "from" "[I", Cond.fieldLink RX2 15 "Queuefloat$Payments" "to" "[I", Cond.fieldLink RX2 24 "Queuefloat$Payments" "waits" "[Z", Cond.methodLink RX4 189 yX4_sellPledge]
def wsX4_morning_r3 : List Cond := [Cond.instanceMethod yX4_sellPledge, Cond.selects RX4 yX4_sellPledge yX4_sellPledge, Cond.code yX4_sellPledge cX4_sellPledge 4 none, Cond.fieldLink RX4 55 "Queuefloat" "paperPrice" "I", Cond.methodLink RX4 85 Lib.Math.min.name, Cond.static Lib.Math.min.name, Cond.initialized "java/lang/Math", Cond.code Lib.Math.min.name Lib.Math.min.code 2 (some .int), Cond.fieldLink RX4 192 "Queuefloat" "proceeds" "I"]
def wsX4_morning : List Cond := .code yX4_morning cX4_morning 3 (some .int) :: ((wsX4_morning_r1 ++ (wsX4_morning_r2 ++ wsX4_morning_r3)) ++ wsX40 ++ wsX10 ++ wsX30 ++ wsX00 ++ wsX20)
def wsX4_sold : List Cond := .code yX4_sold cX4_sold 1 (some .int) :: ([.fieldLink RX4 192 "Queuefloat" "proceeds" "I"] ++ wsX40)
def wsJ9_max_7cf53 : List Cond := .code yJ9_max_7cf53 cJ9_max_7cf53 2 (some .int) :: ([])
def wsJ9_min_7cf53 : List Cond := .code yJ9_min_7cf53 cJ9_min_7cf53 2 (some .int) :: ([])
theorem wsL_law_x0 : ∀ w ∈ (vx_atS RX4 144 "java/lang/IndexOutOfBoundsException" ["java/lang/RuntimeException", "java/lang/Exception"]).filter goodWord, w ∈ lw_tbl := by decide +kernel
theorem wsL_law_x1 : ∀ w ∈ (vx_atS RX4 81 "java/lang/IllegalStateException" ["java/lang/RuntimeException", "java/lang/Exception"]).filter goodWord, w ∈ lw_tbl := by decide +kernel
theorem wsL_law_x2 : ∀ w ∈ (vx_atS RX4 201 "java/lang/IllegalArgumentException" ["java/lang/RuntimeException", "java/lang/Exception"]).filter goodWord, w ∈ lw_tbl := by decide +kernel
theorem inJ6 : ∀ w ∈ wsJ60, w ∈ lw_tbl := by decide +kernel
theorem inJ9 : ∀ w ∈ wsJ90, w ∈ lw_tbl := by decide +kernel
theorem inJ0 : ∀ w ∈ wsJ00, w ∈ lw_tbl := by decide +kernel
theorem inJ10 : ∀ w ∈ wsJ100, w ∈ lw_tbl := by decide +kernel
set_option maxRecDepth 20000 in
theorem ggX2_apply_X3_move : GoodIn wsX2_apply wsX3_move := goodIn_r _ [8, 9, 25, 26] (by decide +kernel) (by decide +kernel)
set_option maxRecDepth 20000 in
theorem gX2_apply_X3_move : GoodIn wsX2_apply (wsV RX2 35 RX3 yX3_move wsX3_move) := goodIn_app (goodIn_of _ (by decide +kernel)) ggX2_apply_X3_move
set_option maxRecDepth 20000 in
theorem ggX2_apply_X3_notePaid : GoodIn wsX2_apply wsX3_notePaid := goodIn_r _ [13, 14, 15, 16, 17, 25, 26] (by decide +kernel) (by decide +kernel)
set_option maxRecDepth 20000 in
theorem gX2_apply_X3_notePaid : GoodIn wsX2_apply (wsV RX2 41 RX3 yX3_notePaid wsX3_notePaid) := goodIn_app (goodIn_of _ (by decide +kernel)) ggX2_apply_X3_notePaid
set_option maxRecDepth 20000 in
theorem ggX2_inQueue_X2_waitsAt : GoodIn wsX2_inQueue wsX2_waitsAt := goodIn_r _ [7, 8, 9, 10, 11, 12, 13, 14, 15, 16] (by decide +kernel) (by decide +kernel)
set_option maxRecDepth 20000 in
theorem gX2_inQueue_X2_waitsAt : GoodIn wsX2_inQueue (wsV RX2 44 RX2 yX2_waitsAt wsX2_waitsAt) := goodIn_app (goodIn_of _ (by decide +kernel)) ggX2_inQueue_X2_waitsAt
set_option maxRecDepth 20000 in
theorem ggX3_notePaid_X4_pairOf : GoodIn wsX3_notePaid wsX4_pairOf := goodIn_r _ [4] (by decide +kernel) (by decide +kernel)
set_option maxRecDepth 20000 in
theorem gX3_notePaid_X4_pairOf_n18 : GoodIn wsX3_notePaid (wsX4_pairOf) := ggX3_notePaid_X4_pairOf
set_option maxRecDepth 20000 in
theorem ggX4_init_X3_init : GoodIn wsX4_init wsX3_init := goodIn_r _ [31, 32, 2, 3, 23, 33, 34, 60, 61] (by decide +kernel) (by decide +kernel)
set_option maxRecDepth 20000 in
theorem gX4_init_X3_init : GoodIn wsX4_init (wsX3_init) := ggX4_init_X3_init
set_option maxRecDepth 20000 in
theorem ggX4_init_X0_init : GoodIn wsX4_init wsX0_init := goodIn_r _ [37, 38, 2, 3, 23, 39, 40, 41, 74, 75] (by decide +kernel) (by decide +kernel)
set_option maxRecDepth 20000 in
theorem gX4_init_X0_init : GoodIn wsX4_init (wsX0_init) := ggX4_init_X0_init
set_option maxRecDepth 20000 in
theorem ggX4_init_X2_init : GoodIn wsX4_init wsX2_init := goodIn_r _ [44, 45, 2, 3, 23, 46, 47, 48, 49, 21, 50, 51, 76, 77, 78, 79, 80, 81, 82] (by decide +kernel) (by decide +kernel)
set_option maxRecDepth 20000 in
theorem gX4_init_X2_init : GoodIn wsX4_init (wsX2_init) := ggX4_init_X2_init
set_option maxRecDepth 20000 in
theorem ggX4_init_X1_init : GoodIn wsX4_init wsX1_init := goodIn_r _ [54, 55, 2, 3, 23, 56, 57, 58, 59, 83, 84, 85, 86, 87, 88] (by decide +kernel) (by decide +kernel)
set_option maxRecDepth 20000 in
theorem gX4_init_X1_init : GoodIn wsX4_init (wsX1_init) := ggX4_init_X1_init
set_option maxRecDepth 20000 in
theorem ggX4_fund_X4_requireBank : GoodIn wsX4_fund wsX4_requireBank := goodIn_ca (goodIn_r _ [10, 11, 12] (by decide +kernel) (by decide +kernel)) (goodIn_sub (fun _ h => List.mem_cons_of_mem _ (List.mem_append_left _ (List.mem_append_right _ h))) (by decide +kernel))
set_option maxRecDepth 20000 in
theorem gX4_fund_X4_requireBank : GoodIn wsX4_fund (va_wsS RX4 61 yX4_requireBank wsX4_requireBank) := goodIn_app (goodIn_of _ (by decide +kernel)) ggX4_fund_X4_requireBank
set_option maxRecDepth 20000 in
theorem ggX4_fund_X4_requireRange : GoodIn wsX4_fund wsX4_requireRange := goodIn_ca (goodIn_r _ [15, 16, 17] (by decide +kernel) (by decide +kernel)) (goodIn_sub (fun _ h => List.mem_cons_of_mem _ (List.mem_append_right _ h)) (by decide +kernel))
set_option maxRecDepth 20000 in
theorem gX4_fund_X4_requireRange : GoodIn wsX4_fund (va_wsS RX4 66 yX4_requireRange wsX4_requireRange) := goodIn_app (goodIn_of _ (by decide +kernel)) ggX4_fund_X4_requireRange
set_option maxRecDepth 20000 in
theorem ggX4_fund_X4_requireOpen : GoodIn wsX4_fund wsX4_requireOpen := goodIn_ca (goodIn_r _ [21, 1, 2, 22, 23, 24, 25, 26, 27, 28, 29, 30, 31, 32, 33, 34] (by decide +kernel) (by decide +kernel)) (goodIn_sub (fun _ h => List.mem_cons_of_mem _ (List.mem_append_left _ (List.mem_append_left _ (List.mem_append_right _ h)))) (by decide +kernel))
set_option maxRecDepth 20000 in
theorem gX4_fund_X4_requireOpen : GoodIn wsX4_fund (wsV RX4 70 RX4 yX4_requireOpen wsX4_requireOpen) := goodIn_app (goodIn_of _ (by decide +kernel)) ggX4_fund_X4_requireOpen
set_option maxRecDepth 20000 in
theorem ggX4_setFloor_X4_requireBank : GoodIn wsX4_setFloor wsX4_requireBank := goodIn_ca (goodIn_r _ [13, 14, 15] (by decide +kernel) (by decide +kernel)) (goodIn_sub (fun _ h => List.mem_cons_of_mem _ (List.mem_append_left _ (List.mem_append_right _ h))) (by decide +kernel))
set_option maxRecDepth 20000 in
theorem gX4_setFloor_X4_requireBank : GoodIn wsX4_setFloor (va_wsS RX4 61 yX4_requireBank wsX4_requireBank) := goodIn_app (goodIn_of _ (by decide +kernel)) ggX4_setFloor_X4_requireBank
set_option maxRecDepth 20000 in
theorem ggX4_setFloor_X4_requireRange : GoodIn wsX4_setFloor wsX4_requireRange := goodIn_ca (goodIn_r _ [18, 19, 20] (by decide +kernel) (by decide +kernel)) (goodIn_sub (fun _ h => List.mem_cons_of_mem _ (List.mem_append_right _ h)) (by decide +kernel))
set_option maxRecDepth 20000 in
theorem gX4_setFloor_X4_requireRange : GoodIn wsX4_setFloor (va_wsS RX4 66 yX4_requireRange wsX4_requireRange) := goodIn_app (goodIn_of _ (by decide +kernel)) ggX4_setFloor_X4_requireRange
set_option maxRecDepth 20000 in
theorem ggX4_setBound_X4_requireBank : GoodIn wsX4_setBound wsX4_requireBank := goodIn_ca (goodIn_r _ [13, 14, 15] (by decide +kernel) (by decide +kernel)) (goodIn_sub (fun _ h => List.mem_cons_of_mem _ (List.mem_append_left _ (List.mem_append_right _ h))) (by decide +kernel))
set_option maxRecDepth 20000 in
theorem gX4_setBound_X4_requireBank : GoodIn wsX4_setBound (va_wsS RX4 61 yX4_requireBank wsX4_requireBank) := goodIn_app (goodIn_of _ (by decide +kernel)) ggX4_setBound_X4_requireBank
set_option maxRecDepth 20000 in
theorem ggX4_setBound_X4_requireTwo : GoodIn wsX4_setBound wsX4_requireTwo := goodIn_ca (goodIn_r _ [18, 19, 20] (by decide +kernel) (by decide +kernel)) (goodIn_sub (fun _ h => List.mem_cons_of_mem _ (List.mem_append_right _ h)) (by decide +kernel))
set_option maxRecDepth 20000 in
theorem gX4_setBound_X4_requireTwo : GoodIn wsX4_setBound (va_wsS RX4 94 yX4_requireTwo wsX4_requireTwo) := goodIn_app (goodIn_of _ (by decide +kernel)) ggX4_setBound_X4_requireTwo
set_option maxRecDepth 20000 in
theorem ggX4_setBound_X4_pairOf : GoodIn wsX4_setBound wsX4_pairOf := goodIn_r _ [23] (by decide +kernel) (by decide +kernel)
set_option maxRecDepth 20000 in
theorem gX4_setBound_X4_pairOf : GoodIn wsX4_setBound (va_wsS RX4 98 yX4_pairOf wsX4_pairOf) := goodIn_app (goodIn_of _ (by decide +kernel)) ggX4_setBound_X4_pairOf
set_option maxRecDepth 20000 in
theorem ggX4_setBound_X4_requireRange : GoodIn wsX4_setBound wsX4_requireRange := goodIn_ca (goodIn_r _ [26, 19, 20] (by decide +kernel) (by decide +kernel)) (goodIn_sub (fun _ h => List.mem_cons_of_mem _ (List.mem_append_right _ h)) (by decide +kernel))
set_option maxRecDepth 20000 in
theorem gX4_setBound_X4_requireRange : GoodIn wsX4_setBound (va_wsS RX4 66 yX4_requireRange wsX4_requireRange) := goodIn_app (goodIn_of _ (by decide +kernel)) ggX4_setBound_X4_requireRange
set_option maxRecDepth 20000 in
theorem ggX4_givePapers_X4_requireBank : GoodIn wsX4_givePapers wsX4_requireBank := goodIn_ca (goodIn_r _ [8, 9, 10] (by decide +kernel) (by decide +kernel)) (goodIn_sub (fun _ h => List.mem_cons_of_mem _ (List.mem_append_left _ (List.mem_append_right _ h))) (by decide +kernel))
set_option maxRecDepth 20000 in
theorem gX4_givePapers_X4_requireBank : GoodIn wsX4_givePapers (va_wsS RX4 61 yX4_requireBank wsX4_requireBank) := goodIn_app (goodIn_of _ (by decide +kernel)) ggX4_givePapers_X4_requireBank
set_option maxRecDepth 20000 in
theorem ggX4_givePapers_X4_requireRange : GoodIn wsX4_givePapers wsX4_requireRange := goodIn_ca (goodIn_r _ [13, 14, 15] (by decide +kernel) (by decide +kernel)) (goodIn_sub (fun _ h => List.mem_cons_of_mem _ (List.mem_append_right _ h)) (by decide +kernel))
set_option maxRecDepth 20000 in
theorem gX4_givePapers_X4_requireRange : GoodIn wsX4_givePapers (va_wsS RX4 66 yX4_requireRange wsX4_requireRange) := goodIn_app (goodIn_of _ (by decide +kernel)) ggX4_givePapers_X4_requireRange
set_option maxRecDepth 20000 in
theorem ggX4_givePapers_X4_requireOpen : GoodIn wsX4_givePapers wsX4_requireOpen := goodIn_ca (goodIn_r _ [19, 1, 2, 20, 21, 22, 23, 24, 25, 26, 27, 28, 29, 30, 31, 32] (by decide +kernel) (by decide +kernel)) (goodIn_sub (fun _ h => List.mem_cons_of_mem _ (List.mem_append_left _ (List.mem_append_left _ (List.mem_append_right _ h)))) (by decide +kernel))
set_option maxRecDepth 20000 in
theorem gX4_givePapers_X4_requireOpen : GoodIn wsX4_givePapers (wsV RX4 70 RX4 yX4_requireOpen wsX4_requireOpen) := goodIn_app (goodIn_of _ (by decide +kernel)) ggX4_givePapers_X4_requireOpen
set_option maxRecDepth 20000 in
theorem ggX4_account_X4_requireBank : GoodIn wsX4_account wsX4_requireBank := goodIn_ca (goodIn_r _ [6, 7, 8] (by decide +kernel) (by decide +kernel)) (goodIn_sub (fun _ h => List.mem_cons_of_mem _ (List.mem_append_right _ h)) (by decide +kernel))
set_option maxRecDepth 20000 in
theorem gX4_account_X4_requireBank : GoodIn wsX4_account (va_wsS RX4 61 yX4_requireBank wsX4_requireBank) := goodIn_app (goodIn_of _ (by decide +kernel)) ggX4_account_X4_requireBank
set_option maxRecDepth 20000 in
theorem ggX4_papers_X4_requireBank : GoodIn wsX4_papers wsX4_requireBank := goodIn_ca (goodIn_r _ [5, 6, 7] (by decide +kernel) (by decide +kernel)) (goodIn_sub (fun _ h => List.mem_cons_of_mem _ (List.mem_append_right _ h)) (by decide +kernel))
set_option maxRecDepth 20000 in
theorem gX4_papers_X4_requireBank : GoodIn wsX4_papers (va_wsS RX4 61 yX4_requireBank wsX4_requireBank) := goodIn_app (goodIn_of _ (by decide +kernel)) ggX4_papers_X4_requireBank
set_option maxRecDepth 20000 in
theorem ggX4_isOpen_X4_requireBank : GoodIn wsX4_isOpen wsX4_requireBank := goodIn_ca (goodIn_r _ [5, 6, 7] (by decide +kernel) (by decide +kernel)) (goodIn_sub (fun _ h => List.mem_cons_of_mem _ (List.mem_append_right _ h)) (by decide +kernel))
set_option maxRecDepth 20000 in
theorem gX4_isOpen_X4_requireBank : GoodIn wsX4_isOpen (va_wsS RX4 61 yX4_requireBank wsX4_requireBank) := goodIn_app (goodIn_of _ (by decide +kernel)) ggX4_isOpen_X4_requireBank
set_option maxRecDepth 20000 in
theorem ggX4_paid_X4_requireBank : GoodIn wsX4_paid wsX4_requireBank := goodIn_ca (goodIn_r _ [6, 7, 8] (by decide +kernel) (by decide +kernel)) (goodIn_sub (fun _ h => List.mem_cons_of_mem _ (List.mem_append_right _ h)) (by decide +kernel))
set_option maxRecDepth 20000 in
theorem gX4_paid_X4_requireBank : GoodIn wsX4_paid (va_wsS RX4 61 yX4_requireBank wsX4_requireBank) := goodIn_app (goodIn_of _ (by decide +kernel)) ggX4_paid_X4_requireBank
set_option maxRecDepth 20000 in
theorem ggX4_paid_X4_pairOf : GoodIn wsX4_paid wsX4_pairOf := goodIn_r _ [11] (by decide +kernel) (by decide +kernel)
set_option maxRecDepth 20000 in
theorem gX4_paid_X4_pairOf : GoodIn wsX4_paid (va_wsS RX4 98 yX4_pairOf wsX4_pairOf) := goodIn_app (goodIn_of _ (by decide +kernel)) ggX4_paid_X4_pairOf
set_option maxRecDepth 20000 in
theorem ggX4_pay_X4_requireBank : GoodIn wsX4_pay wsX4_requireBank := goodIn_ca (goodIn_r _ [9, 10, 11] (by decide +kernel) (by decide +kernel)) (goodIn_sub (fun _ h => List.mem_cons_of_mem _ (List.mem_append_left _ (List.mem_append_right _ h))) (by decide +kernel))
set_option maxRecDepth 20000 in
theorem gX4_pay_X4_requireBank : GoodIn wsX4_pay (va_wsS RX4 61 yX4_requireBank wsX4_requireBank) := goodIn_app (goodIn_of _ (by decide +kernel)) ggX4_pay_X4_requireBank
set_option maxRecDepth 20000 in
theorem ggX4_pay_X4_requireTwo : GoodIn wsX4_pay wsX4_requireTwo := goodIn_ca (goodIn_r _ [14, 15, 16] (by decide +kernel) (by decide +kernel)) (goodIn_sub (fun _ h => List.mem_cons_of_mem _ (List.mem_append_right _ h)) (by decide +kernel))
set_option maxRecDepth 20000 in
theorem gX4_pay_X4_requireTwo : GoodIn wsX4_pay (va_wsS RX4 94 yX4_requireTwo wsX4_requireTwo) := goodIn_app (goodIn_of _ (by decide +kernel)) ggX4_pay_X4_requireTwo
set_option maxRecDepth 20000 in
theorem ggX4_pay_X4_requireRange : GoodIn wsX4_pay wsX4_requireRange := goodIn_ca (goodIn_r _ [19, 15, 16] (by decide +kernel) (by decide +kernel)) (goodIn_sub (fun _ h => List.mem_cons_of_mem _ (List.mem_append_right _ h)) (by decide +kernel))
set_option maxRecDepth 20000 in
theorem gX4_pay_X4_requireRange : GoodIn wsX4_pay (va_wsS RX4 66 yX4_requireRange wsX4_requireRange) := goodIn_app (goodIn_of _ (by decide +kernel)) ggX4_pay_X4_requireRange
set_option maxRecDepth 20000 in
theorem ggX4_pay_X4_requireOpen : GoodIn wsX4_pay wsX4_requireOpen := goodIn_ca (goodIn_r _ [23, 1, 2, 24, 37, 38, 39, 40, 41, 42, 43, 44, 45, 46, 47, 48] (by decide +kernel) (by decide +kernel)) (goodIn_sub (fun _ h => List.mem_cons_of_mem _ (List.mem_append_left _ (List.mem_append_left _ (List.mem_append_right _ h)))) (by decide +kernel))
set_option maxRecDepth 20000 in
theorem gX4_pay_X4_requireOpen : GoodIn wsX4_pay (wsV RX4 70 RX4 yX4_requireOpen wsX4_requireOpen) := goodIn_app (goodIn_of _ (by decide +kernel)) ggX4_pay_X4_requireOpen
set_option maxRecDepth 20000 in
theorem ggX4_pay_X2_enter : GoodIn wsX4_pay wsX2_enter := goodIn_r _ [29, 30, 31, 32, 33, 34, 35, 36, 49, 50, 51, 52, 53, 54, 55] (by decide +kernel) (by decide +kernel)
set_option maxRecDepth 20000 in
theorem gX4_pay_X2_enter : GoodIn wsX4_pay (wsV RX4 118 RX2 yX2_enter wsX2_enter) := goodIn_app (goodIn_of _ (by decide +kernel)) ggX4_pay_X2_enter
set_option maxRecDepth 20000 in
theorem ggX4_drop_X4_requirePayment : GoodIn wsX4_drop wsX4_requirePayment := goodIn_ca (goodIn_r _ [9, 10, 11, 3, 12, 20, 21, 22, 23, 24, 25, 26, 27, 28, 29, 30, 31, 32, 33, 34, 35, 36, 37, 38] (by decide +kernel) (by decide +kernel)) (goodIn_sub (fun _ h => List.mem_cons_of_mem _ (List.mem_append_right _ h)) (by decide +kernel))
set_option maxRecDepth 20000 in
theorem gX4_drop_X4_requirePayment : GoodIn wsX4_drop (wsV RX4 122 RX4 yX4_requirePayment wsX4_requirePayment) := goodIn_app (goodIn_of _ (by decide +kernel)) ggX4_drop_X4_requirePayment
set_option maxRecDepth 20000 in
theorem ggX4_drop_X2_countWaiting : GoodIn wsX4_drop wsX2_countWaiting := goodIn_r _ [17, 18, 19, 32, 33, 34, 35, 36, 37, 38] (by decide +kernel) (by decide +kernel)
set_option maxRecDepth 20000 in
theorem gX4_drop_X2_countWaiting : GoodIn wsX4_drop (wsV RX4 130 RX2 yX2_countWaiting wsX2_countWaiting) := goodIn_app (goodIn_of _ (by decide +kernel)) ggX4_drop_X2_countWaiting
set_option maxRecDepth 20000 in
theorem ggX4_setSmall_X4_requireRange : GoodIn wsX4_setSmall wsX4_requireRange := goodIn_ca (goodIn_r _ [6, 7, 8] (by decide +kernel) (by decide +kernel)) (goodIn_sub (fun _ h => List.mem_cons_of_mem _ (List.mem_append_right _ h)) (by decide +kernel))
set_option maxRecDepth 20000 in
theorem gX4_setSmall_X4_requireRange : GoodIn wsX4_setSmall (va_wsS RX4 66 yX4_requireRange wsX4_requireRange) := goodIn_app (goodIn_of _ (by decide +kernel)) ggX4_setSmall_X4_requireRange
set_option maxRecDepth 20000 in
theorem ggX4_run_X4_goThroughBanks : GoodIn wsX4_run wsX4_goThroughBanks := goodIn_r _ [5, 6, 7, 8, 4, 9, 10, 11, 12, 13, 14, 15, 16, 17, 18, 19, 20, 21, 22, 23, 24, 25, 26, 27, 28, 29, 30, 31, 32, 33, 34, 35, 36, 37, 38, 39, 40, 41, 42, 43, 44, 45, 46, 47, 48, 49, 50, 51, 52, 53, 54, 55, 56, 57, 58, 59, 60, 61, 62, 63, 64, 65, 66, 67, 68, 69, 107, 108, 109, 110, 111, 112, 113, 114, 115, 116, 117, 118, 119, 120, 121, 122, 123, 124, 125, 126, 127, 128, 129] (by decide +kernel) (by decide +kernel)
set_option maxRecDepth 20000 in
theorem gX4_run_X4_goThroughBanks : GoodIn wsX4_run (wsV RX4 134 RX4 yX4_goThroughBanks wsX4_goThroughBanks) := goodIn_app (goodIn_of _ (by decide +kernel)) ggX4_run_X4_goThroughBanks
set_option maxRecDepth 20000 in
theorem ggX4_run_X4_sendLargestSet : GoodIn wsX4_run wsX4_sendLargestSet := goodIn_r _ [73, 74, 10, 11, 12, 13, 14, 15, 16, 17, 18, 19, 20, 21, 22, 23, 75, 76, 77, 78, 79, 80, 81, 82, 83, 84, 4, 85, 86, 31, 33, 87, 88, 89, 62, 90, 64, 91, 92, 93, 94, 69, 95, 96, 97, 53, 54, 55, 56, 57, 58, 59, 60, 61, 63, 65, 66, 67, 68, 39, 40, 98, 99, 100, 101, 102, 103, 104, 105, 106, 49, 50, 51, 52, 28, 107, 108, 109, 110, 111, 112, 113, 114, 115, 116, 117, 118, 119, 120, 121, 122, 123, 124, 125, 126, 127, 128, 129] (by decide +kernel) (by decide +kernel)
set_option maxRecDepth 20000 in
theorem gX4_run_X4_sendLargestSet : GoodIn wsX4_run (wsV RX4 137 RX4 yX4_sendLargestSet wsX4_sendLargestSet) := goodIn_app (goodIn_of _ (by decide +kernel)) ggX4_run_X4_sendLargestSet
set_option maxRecDepth 20000 in
theorem ggX4_queued_X4_requireBank : GoodIn wsX4_queued wsX4_requireBank := goodIn_ca (goodIn_r _ [7, 1, 2] (by decide +kernel) (by decide +kernel)) (goodIn_sub (fun _ h => List.mem_cons_of_mem _ (List.mem_append_right _ h)) (by decide +kernel))
set_option maxRecDepth 20000 in
theorem gX4_queued_X4_requireBank : GoodIn wsX4_queued (va_wsS RX4 61 yX4_requireBank wsX4_requireBank) := goodIn_app (goodIn_of _ (by decide +kernel)) ggX4_queued_X4_requireBank
set_option maxRecDepth 20000 in
theorem ggX4_queued_X2_inQueue : GoodIn wsX4_queued wsX2_inQueue := goodIn_r _ [12, 13, 14, 15, 16, 17, 11, 18, 19, 20, 33, 34, 35, 36, 37, 38, 39] (by decide +kernel) (by decide +kernel)
set_option maxRecDepth 20000 in
theorem gX4_queued_X2_inQueue : GoodIn wsX4_queued (wsV RX4 145 RX2 yX2_inQueue wsX2_inQueue) := goodIn_app (goodIn_of _ (by decide +kernel)) ggX4_queued_X2_inQueue
set_option maxRecDepth 20000 in
theorem ggX4_why_X4_requirePayment : GoodIn wsX4_why wsX4_requirePayment := goodIn_ca (goodIn_r _ [5, 6, 7, 8, 9, 27, 28, 29, 30, 31, 32, 33, 34, 35, 36, 37, 38, 39, 40, 41, 42, 43, 44, 45] (by decide +kernel) (by decide +kernel)) (goodIn_sub (fun _ h => List.mem_cons_of_mem _ (List.mem_append_right _ h)) (by decide +kernel))
set_option maxRecDepth 20000 in
theorem gX4_why_X4_requirePayment : GoodIn wsX4_why (wsV RX4 122 RX4 yX4_requirePayment wsX4_requirePayment) := goodIn_app (goodIn_of _ (by decide +kernel)) ggX4_why_X4_requirePayment
set_option maxRecDepth 20000 in
theorem ggX4_why_X4_obstacle : GoodIn wsX4_why wsX4_obstacle := goodIn_r _ [13, 8, 14, 15, 16, 17, 18, 19, 20, 21, 22, 23, 24, 25, 4, 26, 27, 28, 29, 30, 31, 32, 33, 34, 35, 36, 37, 38, 39, 40, 41, 42, 43, 44, 45, 46, 47, 48, 49] (by decide +kernel) (by decide +kernel)
set_option maxRecDepth 20000 in
theorem gX4_why_X4_obstacle : GoodIn wsX4_why (wsV RX4 148 RX4 yX4_obstacle wsX4_obstacle) := goodIn_app (goodIn_of _ (by decide +kernel)) ggX4_why_X4_obstacle
set_option maxRecDepth 20000 in
theorem ggX4_canAny_X2_countWaiting : GoodIn wsX4_canAny wsX2_countWaiting := goodIn_r _ [8, 9, 10, 78, 79, 80, 81, 82, 83, 84] (by decide +kernel) (by decide +kernel)
set_option maxRecDepth 20000 in
theorem gX4_canAny_X2_countWaiting : GoodIn wsX4_canAny (wsV RX4 130 RX2 yX2_countWaiting wsX2_countWaiting) := goodIn_app (goodIn_of _ (by decide +kernel)) ggX4_canAny_X2_countWaiting
set_option maxRecDepth 20000 in
theorem ggX4_canAny_X4_listWaiting : GoodIn wsX4_canAny wsX4_listWaiting := goodIn_r _ [15, 3, 16, 17, 18, 66, 67, 68, 69, 70, 71, 72, 73, 74, 75, 76, 77, 78, 79, 80, 81, 82, 83, 84] (by decide +kernel) (by decide +kernel)
set_option maxRecDepth 20000 in
theorem gX4_canAny_X4_listWaiting : GoodIn wsX4_canAny (wsV RX4 154 RX4 yX4_listWaiting wsX4_listWaiting) := goodIn_app (goodIn_of _ (by decide +kernel)) ggX4_canAny_X4_listWaiting
set_option maxRecDepth 20000 in
theorem ggX4_canAny_X4_canGoTogether : GoodIn wsX4_canAny wsX4_canGoTogether := goodIn_r _ [22, 23, 24, 18, 3, 25, 26, 27, 28, 29, 30, 31, 32, 33, 34, 35, 36, 37, 38, 14, 39, 40, 41, 42, 7, 43, 44, 45, 46, 47, 48, 49, 50, 51, 52, 53, 54, 55, 56, 57, 58, 59, 60, 61, 62, 63, 64, 65, 66, 67, 68, 69, 70, 71, 72, 73, 74, 75, 76, 77, 85, 86, 78, 79, 80, 81, 82, 83, 84, 87, 88] (by decide +kernel) (by decide +kernel)
set_option maxRecDepth 20000 in
theorem gX4_canAny_X4_canGoTogether : GoodIn wsX4_canAny (wsV RX4 157 RX4 yX4_canGoTogether wsX4_canGoTogether) := goodIn_app (goodIn_of _ (by decide +kernel)) ggX4_canAny_X4_canGoTogether
set_option maxRecDepth 20000 in
theorem ggX4_setPrice_X4_requireRange : GoodIn wsX4_setPrice wsX4_requireRange := goodIn_ca (goodIn_r _ [6, 7, 8] (by decide +kernel) (by decide +kernel)) (goodIn_sub (fun _ h => List.mem_cons_of_mem _ (List.mem_append_right _ h)) (by decide +kernel))
set_option maxRecDepth 20000 in
theorem gX4_setPrice_X4_requireRange : GoodIn wsX4_setPrice (va_wsS RX4 66 yX4_requireRange wsX4_requireRange) := goodIn_app (goodIn_of _ (by decide +kernel)) ggX4_setPrice_X4_requireRange
set_option maxRecDepth 20000 in
theorem ggX4_lend_X4_requireBank : GoodIn wsX4_lend wsX4_requireBank := goodIn_ca (goodIn_r _ [8, 9, 10] (by decide +kernel) (by decide +kernel)) (goodIn_sub (fun _ h => List.mem_cons_of_mem _ (List.mem_append_left _ (List.mem_append_left _ (List.mem_append_right _ h)))) (by decide +kernel))
set_option maxRecDepth 20000 in
theorem gX4_lend_X4_requireBank : GoodIn wsX4_lend (va_wsS RX4 61 yX4_requireBank wsX4_requireBank) := goodIn_app (goodIn_of _ (by decide +kernel)) ggX4_lend_X4_requireBank
set_option maxRecDepth 20000 in
theorem ggX4_lend_X4_requireTwo : GoodIn wsX4_lend wsX4_requireTwo := goodIn_ca (goodIn_r _ [13, 14, 15] (by decide +kernel) (by decide +kernel)) (goodIn_sub (fun _ h => List.mem_cons_of_mem _ (List.mem_append_left _ (List.mem_append_right _ h))) (by decide +kernel))
set_option maxRecDepth 20000 in
theorem gX4_lend_X4_requireTwo : GoodIn wsX4_lend (va_wsS RX4 94 yX4_requireTwo wsX4_requireTwo) := goodIn_app (goodIn_of _ (by decide +kernel)) ggX4_lend_X4_requireTwo
set_option maxRecDepth 20000 in
theorem ggX4_lend_X4_requireRange : GoodIn wsX4_lend wsX4_requireRange := goodIn_ca (goodIn_r _ [18, 14, 15] (by decide +kernel) (by decide +kernel)) (goodIn_sub (fun _ h => List.mem_cons_of_mem _ (List.mem_append_left _ (List.mem_append_right _ h))) (by decide +kernel))
set_option maxRecDepth 20000 in
theorem gX4_lend_X4_requireRange : GoodIn wsX4_lend (va_wsS RX4 66 yX4_requireRange wsX4_requireRange) := goodIn_app (goodIn_of _ (by decide +kernel)) ggX4_lend_X4_requireRange
set_option maxRecDepth 20000 in
theorem ggX4_lend_X4_requireOpen : GoodIn wsX4_lend wsX4_requireOpen := goodIn_ca (goodIn_r _ [22, 23, 24, 25, 56, 57, 58, 59, 60, 61, 62, 63, 64, 65, 66, 67] (by decide +kernel) (by decide +kernel)) (goodIn_sub (fun _ h => List.mem_cons_of_mem _ (List.mem_append_right _ h)) (by decide +kernel))
set_option maxRecDepth 20000 in
theorem gX4_lend_X4_requireOpen : GoodIn wsX4_lend (wsV RX4 70 RX4 yX4_requireOpen wsX4_requireOpen) := goodIn_app (goodIn_of _ (by decide +kernel)) ggX4_lend_X4_requireOpen
set_option maxRecDepth 20000 in
theorem ggX4_lend_X4_requireLoanable : GoodIn wsX4_lend wsX4_requireLoanable := goodIn_ca (goodIn_r _ [29, 23, 24, 4, 30, 3, 2, 31, 32, 33, 34, 35, 36, 7, 37, 38, 39, 56, 57, 58, 59, 60, 61, 62, 63, 64, 65, 66, 67, 68, 69, 70, 71, 72, 73, 74, 75, 76, 77] (by decide +kernel) (by decide +kernel)) (goodIn_sub (fun _ h => List.mem_cons_of_mem _ (List.mem_append_right _ h)) (by decide +kernel))
set_option maxRecDepth 20000 in
theorem gX4_lend_X4_requireLoanable : GoodIn wsX4_lend (wsV RX4 161 RX4 yX4_requireLoanable wsX4_requireLoanable) := goodIn_app (goodIn_of _ (by decide +kernel)) ggX4_lend_X4_requireLoanable
set_option maxRecDepth 20000 in
theorem ggX4_lend_X3_move : GoodIn wsX4_lend wsX3_move := goodIn_r _ [44, 45, 74, 75] (by decide +kernel) (by decide +kernel)
set_option maxRecDepth 20000 in
theorem gX4_lend_X3_move : GoodIn wsX4_lend (wsV RX4 165 RX3 yX3_move wsX3_move) := goodIn_app (goodIn_of _ (by decide +kernel)) ggX4_lend_X3_move
set_option maxRecDepth 20000 in
theorem ggX4_lend_X1_enter : GoodIn wsX4_lend wsX1_enter := goodIn_r _ [50, 51, 52, 53, 54, 55, 68, 69, 70, 71, 72, 73] (by decide +kernel) (by decide +kernel)
set_option maxRecDepth 20000 in
theorem gX4_lend_X1_enter : GoodIn wsX4_lend (wsV RX4 168 RX1 yX1_enter wsX1_enter) := goodIn_app (goodIn_of _ (by decide +kernel)) ggX4_lend_X1_enter
set_option maxRecDepth 20000 in
theorem ggX4_morning_X3_forgetPaid : GoodIn wsX4_morning wsX3_forgetPaid := goodIn_r _ [10, 11, 76, 77] (by decide +kernel) (by decide +kernel)
set_option maxRecDepth 20000 in
theorem gX4_morning_X3_forgetPaid : GoodIn wsX4_morning (wsV RX4 173 RX3 yX3_forgetPaid wsX3_forgetPaid) := goodIn_app (goodIn_of _ (by decide +kernel)) ggX4_morning_X3_forgetPaid
set_option maxRecDepth 20000 in
theorem ggX4_morning_X4_canRepay : GoodIn wsX4_morning wsX4_canRepay := goodIn_r _ [16, 2, 5, 17, 1, 18, 19, 20, 21, 58, 59, 60, 61, 62, 63, 64, 65, 66, 67, 68, 69, 70, 71, 72, 73, 74, 75, 76, 77, 78, 79] (by decide +kernel) (by decide +kernel)
set_option maxRecDepth 20000 in
theorem gX4_morning_X4_canRepay : GoodIn wsX4_morning (wsV RX4 176 RX4 yX4_canRepay wsX4_canRepay) := goodIn_app (goodIn_of _ (by decide +kernel)) ggX4_morning_X4_canRepay
set_option maxRecDepth 20000 in
theorem ggX4_morning_X4_repay : GoodIn wsX4_morning wsX4_repay := goodIn_r _ [25, 2, 5, 1, 26, 19, 27, 28, 29, 30, 31, 9, 32, 33, 58, 59, 60, 61, 62, 63, 64, 65, 66, 67, 68, 69, 70, 71, 72, 73, 74, 75, 76, 77] (by decide +kernel) (by decide +kernel)
set_option maxRecDepth 20000 in
theorem gX4_morning_X4_repay : GoodIn wsX4_morning (wsV RX4 180 RX4 yX4_repay wsX4_repay) := goodIn_app (goodIn_of _ (by decide +kernel)) ggX4_morning_X4_repay
set_option maxRecDepth 20000 in
theorem ggX4_morning_X4_close : GoodIn wsX4_morning wsX4_close := goodIn_r _ [37, 17, 38, 39, 40, 41, 42, 43, 44, 45, 46, 47, 58, 59, 60, 61, 62, 63, 64, 65, 66, 67, 68, 69, 80, 81, 82, 83, 84, 85, 86] (by decide +kernel) (by decide +kernel)
set_option maxRecDepth 20000 in
theorem gX4_morning_X4_close : GoodIn wsX4_morning (wsV RX4 186 RX4 yX4_close wsX4_close) := goodIn_app (goodIn_of _ (by decide +kernel)) ggX4_morning_X4_close
set_option maxRecDepth 20000 in
theorem ggX4_morning_X4_sellPledge : GoodIn wsX4_morning wsX4_sellPledge := goodIn_r _ [51, 2, 28, 52, 19, 53, 54, 55, 56, 1, 18, 26, 5, 57, 58, 59, 60, 61, 62, 63, 64, 65, 66, 67, 68, 69, 70, 71, 72, 73, 74, 75, 76, 77] (by decide +kernel) (by decide +kernel)
set_option maxRecDepth 20000 in
theorem gX4_morning_X4_sellPledge : GoodIn wsX4_morning (wsV RX4 189 RX4 yX4_sellPledge wsX4_sellPledge) := goodIn_app (goodIn_of _ (by decide +kernel)) ggX4_morning_X4_sellPledge
set_option maxRecDepth 20000 in
theorem ggX4_requireLoanable_X4_pledgeWorth : GoodIn wsX4_requireLoanable wsX4_pledgeWorth := goodIn_r _ [14, 15, 16, 17, 18, 19, 20, 21, 22, 23, 24, 25, 26, 27, 28] (by decide +kernel) (by decide +kernel)
set_option maxRecDepth 20000 in
theorem gX4_requireLoanable_X4_pledgeWorth : GoodIn wsX4_requireLoanable (wsV RX4 210 RX4 yX4_pledgeWorth wsX4_pledgeWorth) := goodIn_app (goodIn_of _ (by decide +kernel)) ggX4_requireLoanable_X4_pledgeWorth
set_option maxRecDepth 20000 in
theorem ggX4_obstacle_X4_pairOf : GoodIn wsX4_obstacle wsX4_pairOf := goodIn_r _ [15] (by decide +kernel) (by decide +kernel)
set_option maxRecDepth 20000 in
theorem gX4_obstacle_X4_pairOf : GoodIn wsX4_obstacle (va_wsS RX4 98 yX4_pairOf wsX4_pairOf) := goodIn_app (goodIn_of _ (by decide +kernel)) ggX4_obstacle_X4_pairOf
set_option maxRecDepth 20000 in
theorem ggX4_send_X2_apply : GoodIn wsX4_send wsX2_apply := goodIn_r _ [8, 9, 10, 11, 12, 13, 14, 15, 16, 17, 18, 19, 20, 21, 22, 23, 24, 25, 38, 39, 40, 41, 42, 43, 44, 45, 46] (by decide +kernel) (by decide +kernel)
set_option maxRecDepth 20000 in
theorem gX4_send_X2_apply : GoodIn wsX4_send (wsV RX4 226 RX2 yX2_apply wsX2_apply) := goodIn_app (goodIn_of _ (by decide +kernel)) ggX4_send_X2_apply
set_option maxRecDepth 20000 in
theorem ggX4_goThroughBanks_X4_nextToGo : GoodIn wsX4_goThroughBanks wsX4_nextToGo := goodIn_r _ [5, 6, 7, 8, 9, 10, 11, 12, 13, 14, 15, 16, 17, 18, 19, 20, 21, 22, 4, 23, 24, 25, 26, 27, 28, 29, 30, 31, 32, 33, 34, 35, 36, 37, 38, 39, 40, 41, 42, 43, 44, 66, 67, 68, 69, 70, 71, 72, 73, 74, 75, 76, 77, 78, 79, 80, 81, 82, 83, 84, 85, 86, 87, 88] (by decide +kernel) (by decide +kernel)
set_option maxRecDepth 20000 in
theorem gX4_goThroughBanks_X4_nextToGo : GoodIn wsX4_goThroughBanks (wsV RX4 230 RX4 yX4_nextToGo wsX4_nextToGo) := goodIn_app (goodIn_of _ (by decide +kernel)) ggX4_goThroughBanks_X4_nextToGo
set_option maxRecDepth 20000 in
theorem ggX4_goThroughBanks_X4_send : GoodIn wsX4_goThroughBanks wsX4_send := goodIn_r _ [48, 6, 27, 24, 49, 50, 51, 10, 52, 19, 53, 54, 55, 56, 57, 58, 59, 60, 61, 62, 63, 64, 65, 35, 4, 36, 66, 67, 68, 69, 70, 71, 72, 73, 74, 75, 76, 77, 78, 79, 80, 81, 82, 83, 84, 85, 86] (by decide +kernel) (by decide +kernel)
set_option maxRecDepth 20000 in
theorem gX4_goThroughBanks_X4_send : GoodIn wsX4_goThroughBanks (wsV RX4 233 RX4 yX4_send wsX4_send) := goodIn_app (goodIn_of _ (by decide +kernel)) ggX4_goThroughBanks_X4_send
set_option maxRecDepth 20000 in
theorem ggX4_nextToGo_X2_inQueue : GoodIn wsX4_nextToGo wsX2_inQueue := goodIn_r _ [6, 7, 8, 9, 10, 11, 5, 12, 13, 14, 53, 54, 55, 56, 57, 58, 59] (by decide +kernel) (by decide +kernel)
set_option maxRecDepth 20000 in
theorem gX4_nextToGo_X2_inQueue : GoodIn wsX4_nextToGo (wsV RX4 145 RX2 yX2_inQueue wsX2_inQueue) := goodIn_app (goodIn_of _ (by decide +kernel)) ggX4_nextToGo_X2_inQueue
set_option maxRecDepth 20000 in
theorem ggX4_nextToGo_X4_obstacle : GoodIn wsX4_nextToGo wsX4_obstacle := goodIn_r _ [19, 1, 20, 21, 22, 23, 24, 25, 26, 27, 28, 29, 30, 31, 18, 32, 41, 42, 43, 44, 45, 46, 47, 48, 49, 50, 51, 52, 53, 54, 55, 56, 57, 58, 59, 60, 61, 62, 63] (by decide +kernel) (by decide +kernel)
set_option maxRecDepth 20000 in
theorem gX4_nextToGo_X4_obstacle : GoodIn wsX4_nextToGo (wsV RX4 148 RX4 yX4_obstacle wsX4_obstacle) := goodIn_app (goodIn_of _ (by decide +kernel)) ggX4_nextToGo_X4_obstacle
set_option maxRecDepth 20000 in
theorem ggX4_nextToGo_X4_firstSmallFree : GoodIn wsX4_nextToGo wsX4_firstSmallFree := goodIn_r _ [36, 1, 37, 38, 22, 39, 40, 10, 11, 5, 12, 13, 14, 15, 16, 17, 18, 19, 20, 21, 23, 24, 25, 26, 27, 28, 29, 30, 31, 32, 41, 42, 43, 44, 45, 46, 47, 48, 49, 50, 51, 52, 53, 54, 55, 56, 57, 58, 59, 60, 61, 62, 63] (by decide +kernel) (by decide +kernel)
set_option maxRecDepth 20000 in
theorem gX4_nextToGo_X4_firstSmallFree : GoodIn wsX4_nextToGo (wsV RX4 236 RX4 yX4_firstSmallFree wsX4_firstSmallFree) := goodIn_app (goodIn_of _ (by decide +kernel)) ggX4_nextToGo_X4_firstSmallFree
set_option maxRecDepth 20000 in
theorem ggX4_firstSmallFree_X2_waitsAt : GoodIn wsX4_firstSmallFree wsX2_waitsAt := goodIn_r _ [10, 11, 12, 42, 43, 44, 45, 46, 47, 48] (by decide +kernel) (by decide +kernel)
set_option maxRecDepth 20000 in
theorem gX4_firstSmallFree_X2_waitsAt : GoodIn wsX4_firstSmallFree (wsV RX4 242 RX2 yX2_waitsAt wsX2_waitsAt) := goodIn_app (goodIn_of _ (by decide +kernel)) ggX4_firstSmallFree_X2_waitsAt
set_option maxRecDepth 20000 in
theorem ggX4_firstSmallFree_X4_obstacle : GoodIn wsX4_firstSmallFree wsX4_obstacle := goodIn_r _ [17, 1, 18, 19, 4, 20, 21, 22, 23, 24, 25, 26, 27, 28, 16, 29, 30, 31, 32, 33, 34, 35, 36, 37, 38, 39, 40, 41, 42, 43, 44, 45, 46, 47, 48, 49, 50, 51, 52] (by decide +kernel) (by decide +kernel)
set_option maxRecDepth 20000 in
theorem gX4_firstSmallFree_X4_obstacle : GoodIn wsX4_firstSmallFree (wsV RX4 148 RX4 yX4_obstacle wsX4_obstacle) := goodIn_app (goodIn_of _ (by decide +kernel)) ggX4_firstSmallFree_X4_obstacle
set_option maxRecDepth 20000 in
theorem ggX4_sendLargestSet_X2_inQueue : GoodIn wsX4_sendLargestSet wsX2_inQueue := goodIn_r _ [7, 8, 9, 10, 11, 12, 6, 13, 14, 15, 87, 88, 89, 90, 91, 92, 93] (by decide +kernel) (by decide +kernel)
set_option maxRecDepth 20000 in
theorem gX4_sendLargestSet_X2_inQueue : GoodIn wsX4_sendLargestSet (wsV RX4 145 RX2 yX2_inQueue wsX2_inQueue) := goodIn_app (goodIn_of _ (by decide +kernel)) ggX4_sendLargestSet_X2_inQueue
set_option maxRecDepth 20000 in
theorem ggX4_sendLargestSet_J6_bitCount_0f7a4 : GoodIn wsX4_sendLargestSet wsJ6_bitCount_0f7a4 := goodIn_r _ [19, 20, 21, 22] (by decide +kernel) (by decide +kernel)
set_option maxRecDepth 20000 in
theorem gX4_sendLargestSet_J6_bitCount_0f7a4 : GoodIn wsX4_sendLargestSet (va_wsS RX4 245 yJ6_bitCount_0f7a4 wsJ6_bitCount_0f7a4) := goodIn_app (goodIn_of _ (by decide +kernel)) ggX4_sendLargestSet_J6_bitCount_0f7a4
set_option maxRecDepth 20000 in
theorem ggX4_sendLargestSet_X4_canGoTogether : GoodIn wsX4_sendLargestSet wsX4_canGoTogether := goodIn_r _ [27, 28, 29, 1, 2, 30, 31, 32, 33, 34, 35, 36, 37, 38, 39, 40, 41, 42, 43, 26, 44, 45, 46, 47, 6, 48, 15, 49, 50, 51, 52, 53, 54, 55, 56, 57, 58, 59, 60, 61, 62, 63, 64, 65, 66, 67, 68, 69, 75, 76, 77, 78, 79, 80, 81, 82, 83, 84, 85, 86, 94, 95, 87, 88, 89, 90, 91, 92, 93, 96, 97] (by decide +kernel) (by decide +kernel)
set_option maxRecDepth 20000 in
theorem gX4_sendLargestSet_X4_canGoTogether : GoodIn wsX4_sendLargestSet (wsV RX4 157 RX4 yX4_canGoTogether wsX4_canGoTogether) := goodIn_app (goodIn_of _ (by decide +kernel)) ggX4_sendLargestSet_X4_canGoTogether
set_option maxRecDepth 20000 in
theorem ggX4_sendLargestSet_X4_isIn : GoodIn wsX4_sendLargestSet wsX4_isIn := goodIn_r _ [44] (by decide +kernel) (by decide +kernel)
set_option maxRecDepth 20000 in
theorem gX4_sendLargestSet_X4_isIn : GoodIn wsX4_sendLargestSet (va_wsS RX4 250 yX4_isIn wsX4_isIn) := goodIn_app (goodIn_of _ (by decide +kernel)) ggX4_sendLargestSet_X4_isIn
set_option maxRecDepth 20000 in
theorem ggX4_sendLargestSet_X4_send : GoodIn wsX4_sendLargestSet wsX4_send := goodIn_r _ [73, 2, 29, 74, 45, 46, 47, 6, 48, 15, 49, 50, 51, 52, 53, 34, 54, 36, 55, 56, 57, 58, 41, 59, 26, 60, 75, 76, 77, 78, 79, 80, 81, 82, 83, 84, 85, 86, 87, 88, 89, 90, 91, 92, 93, 94, 95] (by decide +kernel) (by decide +kernel)
set_option maxRecDepth 20000 in
theorem gX4_sendLargestSet_X4_send : GoodIn wsX4_sendLargestSet (wsV RX4 233 RX4 yX4_send wsX4_send) := goodIn_app (goodIn_of _ (by decide +kernel)) ggX4_sendLargestSet_X4_send
set_option maxRecDepth 20000 in
theorem ggX4_canGoTogether_X3_copy : GoodIn wsX4_canGoTogether wsX3_copy := goodIn_r _ [10, 11, 12, 13, 14, 15, 16, 60, 61] (by decide +kernel) (by decide +kernel)
set_option maxRecDepth 20000 in
theorem gX4_canGoTogether_X3_copy : GoodIn wsX4_canGoTogether (wsV RX4 253 RX3 yX3_copy wsX3_copy) := goodIn_app (goodIn_of _ (by decide +kernel)) ggX4_canGoTogether_X3_copy
set_option maxRecDepth 20000 in
theorem ggX4_canGoTogether_X4_isIn : GoodIn wsX4_canGoTogether wsX4_isIn := goodIn_r _ [20] (by decide +kernel) (by decide +kernel)
set_option maxRecDepth 20000 in
theorem gX4_canGoTogether_X4_isIn : GoodIn wsX4_canGoTogether (va_wsS RX4 250 yX4_isIn wsX4_isIn) := goodIn_app (goodIn_of _ (by decide +kernel)) ggX4_canGoTogether_X4_isIn
set_option maxRecDepth 20000 in
theorem ggX4_canGoTogether_X2_apply : GoodIn wsX4_canGoTogether wsX2_apply := goodIn_r _ [25, 26, 27, 28, 29, 30, 31, 9, 32, 11, 33, 34, 35, 36, 16, 37, 19, 38, 62, 63, 64, 65, 66, 67, 68, 60, 61] (by decide +kernel) (by decide +kernel)
set_option maxRecDepth 20000 in
theorem gX4_canGoTogether_X2_apply : GoodIn wsX4_canGoTogether (wsV RX4 226 RX2 yX2_apply wsX2_apply) := goodIn_app (goodIn_of _ (by decide +kernel)) ggX4_canGoTogether_X2_apply
set_option maxRecDepth 20000 in
theorem ggX4_canGoTogether_X0_allow : GoodIn wsX4_canGoTogether wsX0_allow := goodIn_r _ [43, 44, 45, 46, 47, 60, 61, 69, 70] (by decide +kernel) (by decide +kernel)
set_option maxRecDepth 20000 in
theorem gX4_canGoTogether_X0_allow : GoodIn wsX4_canGoTogether (wsV RX4 257 RX0 yX0_allow wsX0_allow) := goodIn_app (goodIn_of _ (by decide +kernel)) ggX4_canGoTogether_X0_allow
set_option maxRecDepth 20000 in
theorem ggX4_repay_X3_move : GoodIn wsX4_repay wsX3_move := goodIn_r _ [12, 13, 32, 33] (by decide +kernel) (by decide +kernel)
set_option maxRecDepth 20000 in
theorem gX4_repay_X3_move : GoodIn wsX4_repay (wsV RX4 165 RX3 yX3_move wsX3_move) := goodIn_app (goodIn_of _ (by decide +kernel)) ggX4_repay_X3_move
set_option maxRecDepth 20000 in
theorem ggX4_close_X2_dropAllOf : GoodIn wsX4_close wsX2_dropAllOf := goodIn_r _ [7, 8, 9, 10, 11, 24, 25, 26, 27, 28, 29, 30] (by decide +kernel) (by decide +kernel)
set_option maxRecDepth 20000 in
theorem gX4_close_X2_dropAllOf : GoodIn wsX4_close (wsV RX4 270 RX2 yX2_dropAllOf wsX2_dropAllOf) := goodIn_app (goodIn_of _ (by decide +kernel)) ggX4_close_X2_dropAllOf
abbrev vwCl : List vw_C := [(RX0, TX0, 2), (RX1, TX1, 6), (RX2, TX2, 7), (RX3, TX3, 2), (RX4, TX4, 12)]
